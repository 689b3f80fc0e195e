theorem dJ6_bitCount_0f7a4_0 : decode cJ6_bitCount_0f7a4 0 = .ok (.iload_n 0, 1) := dk_iload_n_0 (by decide +kernel)
theorem dJ6_bitCount_0f7a4_1 : decode cJ6_bitCount_0f7a4 1 = .ok (.iload_n 0, 1) := dk_iload_n_0 (by decide +kernel)
theorem dJ6_bitCount_0f7a4_2 : decode cJ6_bitCount_0f7a4 2 = .ok (.iconst 1, 1) := dk_iconst_1 (by decide +kernel)
theorem dJ6_bitCount_0f7a4_3 : decode cJ6_bitCount_0f7a4 3 = .ok (.iushr, 1) := dk_iushr (by decide +kernel)
theorem dJ6_bitCount_0f7a4_4 : decode cJ6_bitCount_0f7a4 4 = .ok (.ldc_w 265, 3) := dk_ldc_w (by decide +kernel)
theorem dJ6_bitCount_0f7a4_7 : decode cJ6_bitCount_0f7a4 7 = .ok (.iand, 1) := dk_iand (by decide +kernel)
theorem dJ6_bitCount_0f7a4_8 : decode cJ6_bitCount_0f7a4 8 = .ok (.isub, 1) := dk_isub (by decide +kernel)
theorem dJ6_bitCount_0f7a4_9 : decode cJ6_bitCount_0f7a4 9 = .ok (.istore_n 0, 1) := dk_istore_n_0 (by decide +kernel)
theorem dJ6_bitCount_0f7a4_10 : decode cJ6_bitCount_0f7a4 10 = .ok (.iload_n 0, 1) := dk_iload_n_0 (by decide +kernel)
theorem dJ6_bitCount_0f7a4_11 : decode cJ6_bitCount_0f7a4 11 = .ok (.ldc_w 266, 3) := dk_ldc_w (by decide +kernel)
theorem dJ6_bitCount_0f7a4_14 : decode cJ6_bitCount_0f7a4 14 = .ok (.iand, 1) := dk_iand (by decide +kernel)
theorem dJ6_bitCount_0f7a4_15 : decode cJ6_bitCount_0f7a4 15 = .ok (.iload_n 0, 1) := dk_iload_n_0 (by decide +kernel)
theorem dJ6_bitCount_0f7a4_16 : decode cJ6_bitCount_0f7a4 16 = .ok (.iconst 2, 1) := dk_iconst_2 (by decide +kernel)
theorem dJ6_bitCount_0f7a4_17 : decode cJ6_bitCount_0f7a4 17 = .ok (.iushr, 1) := dk_iushr (by decide +kernel)
theorem dJ6_bitCount_0f7a4_18 : decode cJ6_bitCount_0f7a4 18 = .ok (.ldc_w 266, 3) := dk_ldc_w (by decide +kernel)
theorem dJ6_bitCount_0f7a4_21 : decode cJ6_bitCount_0f7a4 21 = .ok (.iand, 1) := dk_iand (by decide +kernel)
theorem dJ6_bitCount_0f7a4_22 : decode cJ6_bitCount_0f7a4 22 = .ok (.iadd, 1) := dk_iadd (by decide +kernel)
theorem dJ6_bitCount_0f7a4_23 : decode cJ6_bitCount_0f7a4 23 = .ok (.istore_n 0, 1) := dk_istore_n_0 (by decide +kernel)
theorem dJ6_bitCount_0f7a4_24 : decode cJ6_bitCount_0f7a4 24 = .ok (.iload_n 0, 1) := dk_iload_n_0 (by decide +kernel)
theorem dJ6_bitCount_0f7a4_25 : decode cJ6_bitCount_0f7a4 25 = .ok (.iload_n 0, 1) := dk_iload_n_0 (by decide +kernel)
theorem dJ6_bitCount_0f7a4_26 : decode cJ6_bitCount_0f7a4 26 = .ok (.iconst 4, 1) := dk_iconst_4 (by decide +kernel)
theorem dJ6_bitCount_0f7a4_27 : decode cJ6_bitCount_0f7a4 27 = .ok (.iushr, 1) := dk_iushr (by decide +kernel)
theorem dJ6_bitCount_0f7a4_28 : decode cJ6_bitCount_0f7a4 28 = .ok (.iadd, 1) := dk_iadd (by decide +kernel)
theorem dJ6_bitCount_0f7a4_29 : decode cJ6_bitCount_0f7a4 29 = .ok (.ldc_w 267, 3) := dk_ldc_w (by decide +kernel)
theorem dJ6_bitCount_0f7a4_32 : decode cJ6_bitCount_0f7a4 32 = .ok (.iand, 1) := dk_iand (by decide +kernel)
theorem dJ6_bitCount_0f7a4_33 : decode cJ6_bitCount_0f7a4 33 = .ok (.istore_n 0, 1) := dk_istore_n_0 (by decide +kernel)
theorem dJ6_bitCount_0f7a4_34 : decode cJ6_bitCount_0f7a4 34 = .ok (.iload_n 0, 1) := dk_iload_n_0 (by decide +kernel)
theorem dJ6_bitCount_0f7a4_35 : decode cJ6_bitCount_0f7a4 35 = .ok (.iload_n 0, 1) := dk_iload_n_0 (by decide +kernel)
theorem dJ6_bitCount_0f7a4_36 : decode cJ6_bitCount_0f7a4 36 = .ok (.bipush 8, 2) := dk_bipush (by decide +kernel)
theorem dJ6_bitCount_0f7a4_38 : decode cJ6_bitCount_0f7a4 38 = .ok (.iushr, 1) := dk_iushr (by decide +kernel)
theorem dJ6_bitCount_0f7a4_39 : decode cJ6_bitCount_0f7a4 39 = .ok (.iadd, 1) := dk_iadd (by decide +kernel)
theorem dJ6_bitCount_0f7a4_40 : decode cJ6_bitCount_0f7a4 40 = .ok (.istore_n 0, 1) := dk_istore_n_0 (by decide +kernel)
theorem dJ6_bitCount_0f7a4_41 : decode cJ6_bitCount_0f7a4 41 = .ok (.iload_n 0, 1) := dk_iload_n_0 (by decide +kernel)
theorem dJ6_bitCount_0f7a4_42 : decode cJ6_bitCount_0f7a4 42 = .ok (.iload_n 0, 1) := dk_iload_n_0 (by decide +kernel)
theorem dJ6_bitCount_0f7a4_43 : decode cJ6_bitCount_0f7a4 43 = .ok (.bipush 16, 2) := dk_bipush (by decide +kernel)
theorem dJ6_bitCount_0f7a4_45 : decode cJ6_bitCount_0f7a4 45 = .ok (.iushr, 1) := dk_iushr (by decide +kernel)
theorem dJ6_bitCount_0f7a4_46 : decode cJ6_bitCount_0f7a4 46 = .ok (.iadd, 1) := dk_iadd (by decide +kernel)
theorem dJ6_bitCount_0f7a4_47 : decode cJ6_bitCount_0f7a4 47 = .ok (.istore_n 0, 1) := dk_istore_n_0 (by decide +kernel)
theorem dJ6_bitCount_0f7a4_48 : decode cJ6_bitCount_0f7a4 48 = .ok (.iload_n 0, 1) := dk_iload_n_0 (by decide +kernel)
theorem dJ6_bitCount_0f7a4_49 : decode cJ6_bitCount_0f7a4 49 = .ok (.bipush 63, 2) := dk_bipush (by decide +kernel)
theorem dJ6_bitCount_0f7a4_51 : decode cJ6_bitCount_0f7a4 51 = .ok (.iand, 1) := dk_iand (by decide +kernel)
theorem dJ6_bitCount_0f7a4_52 : decode cJ6_bitCount_0f7a4 52 = .ok (.ireturn, 1) := dk_ireturn (by decide +kernel)
theorem dJ13_bitCount_95d88_0 : decode cJ13_bitCount_95d88 0 = .ok (.lload_n 0, 1) := dk_lload_n_0 (by decide +kernel)
theorem dJ13_bitCount_95d88_1 : decode cJ13_bitCount_95d88 1 = .ok (.lload_n 0, 1) := dk_lload_n_0 (by decide +kernel)
theorem dJ13_bitCount_95d88_2 : decode cJ13_bitCount_95d88 2 = .ok (.iconst 1, 1) := dk_iconst_1 (by decide +kernel)
theorem dJ13_bitCount_95d88_3 : decode cJ13_bitCount_95d88 3 = .ok (.lushr, 1) := dk_lushr (by decide +kernel)
theorem dJ13_bitCount_95d88_4 : decode cJ13_bitCount_95d88 4 = .ok (.ldc2_w 314, 3) := dk_ldc2_w (by decide +kernel)
theorem dJ13_bitCount_95d88_7 : decode cJ13_bitCount_95d88 7 = .ok (.land, 1) := dk_land (by decide +kernel)
theorem dJ13_bitCount_95d88_8 : decode cJ13_bitCount_95d88 8 = .ok (.lsub, 1) := dk_lsub (by decide +kernel)
theorem dJ13_bitCount_95d88_9 : decode cJ13_bitCount_95d88 9 = .ok (.lstore_n 0, 1) := dk_lstore_n_0 (by decide +kernel)
theorem dJ13_bitCount_95d88_10 : decode cJ13_bitCount_95d88 10 = .ok (.lload_n 0, 1) := dk_lload_n_0 (by decide +kernel)
theorem dJ13_bitCount_95d88_11 : decode cJ13_bitCount_95d88 11 = .ok (.ldc2_w 316, 3) := dk_ldc2_w (by decide +kernel)
theorem dJ13_bitCount_95d88_14 : decode cJ13_bitCount_95d88 14 = .ok (.land, 1) := dk_land (by decide +kernel)
theorem dJ13_bitCount_95d88_15 : decode cJ13_bitCount_95d88 15 = .ok (.lload_n 0, 1) := dk_lload_n_0 (by decide +kernel)
theorem dJ13_bitCount_95d88_16 : decode cJ13_bitCount_95d88 16 = .ok (.iconst 2, 1) := dk_iconst_2 (by decide +kernel)
theorem dJ13_bitCount_95d88_17 : decode cJ13_bitCount_95d88 17 = .ok (.lushr, 1) := dk_lushr (by decide +kernel)
theorem dJ13_bitCount_95d88_18 : decode cJ13_bitCount_95d88 18 = .ok (.ldc2_w 316, 3) := dk_ldc2_w (by decide +kernel)
theorem dJ13_bitCount_95d88_21 : decode cJ13_bitCount_95d88 21 = .ok (.land, 1) := dk_land (by decide +kernel)
theorem dJ13_bitCount_95d88_22 : decode cJ13_bitCount_95d88 22 = .ok (.ladd, 1) := dk_ladd (by decide +kernel)
theorem dJ13_bitCount_95d88_23 : decode cJ13_bitCount_95d88 23 = .ok (.lstore_n 0, 1) := dk_lstore_n_0 (by decide +kernel)
theorem dJ13_bitCount_95d88_24 : decode cJ13_bitCount_95d88 24 = .ok (.lload_n 0, 1) := dk_lload_n_0 (by decide +kernel)
theorem dJ13_bitCount_95d88_25 : decode cJ13_bitCount_95d88 25 = .ok (.lload_n 0, 1) := dk_lload_n_0 (by decide +kernel)
theorem dJ13_bitCount_95d88_26 : decode cJ13_bitCount_95d88 26 = .ok (.iconst 4, 1) := dk_iconst_4 (by decide +kernel)
theorem dJ13_bitCount_95d88_27 : decode cJ13_bitCount_95d88 27 = .ok (.lushr, 1) := dk_lushr (by decide +kernel)
theorem dJ13_bitCount_95d88_28 : decode cJ13_bitCount_95d88 28 = .ok (.ladd, 1) := dk_ladd (by decide +kernel)
theorem dJ13_bitCount_95d88_29 : decode cJ13_bitCount_95d88 29 = .ok (.ldc2_w 318, 3) := dk_ldc2_w (by decide +kernel)
theorem dJ13_bitCount_95d88_32 : decode cJ13_bitCount_95d88 32 = .ok (.land, 1) := dk_land (by decide +kernel)
theorem dJ13_bitCount_95d88_33 : decode cJ13_bitCount_95d88 33 = .ok (.lstore_n 0, 1) := dk_lstore_n_0 (by decide +kernel)
theorem dJ13_bitCount_95d88_34 : decode cJ13_bitCount_95d88 34 = .ok (.lload_n 0, 1) := dk_lload_n_0 (by decide +kernel)
theorem dJ13_bitCount_95d88_35 : decode cJ13_bitCount_95d88 35 = .ok (.lload_n 0, 1) := dk_lload_n_0 (by decide +kernel)
theorem dJ13_bitCount_95d88_36 : decode cJ13_bitCount_95d88 36 = .ok (.bipush 8, 2) := dk_bipush (by decide +kernel)
theorem dJ13_bitCount_95d88_38 : decode cJ13_bitCount_95d88 38 = .ok (.lushr, 1) := dk_lushr (by decide +kernel)
theorem dJ13_bitCount_95d88_39 : decode cJ13_bitCount_95d88 39 = .ok (.ladd, 1) := dk_ladd (by decide +kernel)
theorem dJ13_bitCount_95d88_40 : decode cJ13_bitCount_95d88 40 = .ok (.lstore_n 0, 1) := dk_lstore_n_0 (by decide +kernel)
theorem dJ13_bitCount_95d88_41 : decode cJ13_bitCount_95d88 41 = .ok (.lload_n 0, 1) := dk_lload_n_0 (by decide +kernel)
theorem dJ13_bitCount_95d88_42 : decode cJ13_bitCount_95d88 42 = .ok (.lload_n 0, 1) := dk_lload_n_0 (by decide +kernel)
theorem dJ13_bitCount_95d88_43 : decode cJ13_bitCount_95d88 43 = .ok (.bipush 16, 2) := dk_bipush (by decide +kernel)
theorem dJ13_bitCount_95d88_45 : decode cJ13_bitCount_95d88 45 = .ok (.lushr, 1) := dk_lushr (by decide +kernel)
theorem dJ13_bitCount_95d88_46 : decode cJ13_bitCount_95d88 46 = .ok (.ladd, 1) := dk_ladd (by decide +kernel)
theorem dJ13_bitCount_95d88_47 : decode cJ13_bitCount_95d88 47 = .ok (.lstore_n 0, 1) := dk_lstore_n_0 (by decide +kernel)
theorem dJ13_bitCount_95d88_48 : decode cJ13_bitCount_95d88 48 = .ok (.lload_n 0, 1) := dk_lload_n_0 (by decide +kernel)
theorem dJ13_bitCount_95d88_49 : decode cJ13_bitCount_95d88 49 = .ok (.lload_n 0, 1) := dk_lload_n_0 (by decide +kernel)
theorem dJ13_bitCount_95d88_50 : decode cJ13_bitCount_95d88 50 = .ok (.bipush 32, 2) := dk_bipush (by decide +kernel)
theorem dJ13_bitCount_95d88_52 : decode cJ13_bitCount_95d88 52 = .ok (.lushr, 1) := dk_lushr (by decide +kernel)
theorem dJ13_bitCount_95d88_53 : decode cJ13_bitCount_95d88 53 = .ok (.ladd, 1) := dk_ladd (by decide +kernel)
theorem dJ13_bitCount_95d88_54 : decode cJ13_bitCount_95d88 54 = .ok (.lstore_n 0, 1) := dk_lstore_n_0 (by decide +kernel)
theorem dJ13_bitCount_95d88_55 : decode cJ13_bitCount_95d88 55 = .ok (.lload_n 0, 1) := dk_lload_n_0 (by decide +kernel)
theorem dJ13_bitCount_95d88_56 : decode cJ13_bitCount_95d88 56 = .ok (.l2i, 1) := dk_l2i (by decide +kernel)
theorem dJ13_bitCount_95d88_57 : decode cJ13_bitCount_95d88 57 = .ok (.bipush 127, 2) := dk_bipush (by decide +kernel)
theorem dJ13_bitCount_95d88_59 : decode cJ13_bitCount_95d88 59 = .ok (.iand, 1) := dk_iand (by decide +kernel)
theorem dJ13_bitCount_95d88_60 : decode cJ13_bitCount_95d88 60 = .ok (.ireturn, 1) := dk_ireturn (by decide +kernel)
theorem dX3_covered_0 : decode cX3_covered 0 = .ok (.lconst 0, 1) := dk_lconst_0 (by decide +kernel)
theorem dX3_covered_1 : decode cX3_covered 1 = .ok (.lstore_n 2, 1) := dk_lstore_n_2 (by decide +kernel)
theorem dX3_covered_2 : decode cX3_covered 2 = .ok (.iload_n 1, 1) := dk_iload_n_1 (by decide +kernel)
theorem dX3_covered_3 : decode cX3_covered 3 = .ok (.istore 4, 2) := dk_istore (by decide +kernel)
theorem dX3_covered_5 : decode cX3_covered 5 = .ok (.iconst 0, 1) := dk_iconst_0 (by decide +kernel)
theorem dX3_covered_6 : decode cX3_covered 6 = .ok (.istore 5, 2) := dk_istore (by decide +kernel)
theorem dX3_covered_8 : decode cX3_covered 8 = .ok (.iload 5, 2) := dk_iload (by decide +kernel)
theorem dX3_covered_10 : decode cX3_covered 10 = .ok (.bipush 24, 2) := dk_bipush (by decide +kernel)
theorem dX3_covered_12 : decode cX3_covered 12 = .ok (.if_icmp .ge 61, 3) := dk_if_icmp_ge (by decide +kernel)
theorem dX3_covered_15 : decode cX3_covered 15 = .ok (.iload 4, 2) := dk_iload (by decide +kernel)
theorem dX3_covered_17 : decode cX3_covered 17 = .ok (.ifCond .eq 56, 3) := dk_ifCond_eq (by decide +kernel)
theorem dX3_covered_20 : decode cX3_covered 20 = .ok (.iload 4, 2) := dk_iload (by decide +kernel)
theorem dX3_covered_22 : decode cX3_covered 22 = .ok (.iload 4, 2) := dk_iload (by decide +kernel)
theorem dX3_covered_24 : decode cX3_covered 24 = .ok (.ineg, 1) := dk_ineg (by decide +kernel)
theorem dX3_covered_25 : decode cX3_covered 25 = .ok (.iand, 1) := dk_iand (by decide +kernel)
theorem dX3_covered_26 : decode cX3_covered 26 = .ok (.iconst 1, 1) := dk_iconst_1 (by decide +kernel)
theorem dX3_covered_27 : decode cX3_covered 27 = .ok (.isub, 1) := dk_isub (by decide +kernel)
theorem dX3_covered_28 : decode cX3_covered 28 = .ok (.invokestatic 119, 3) := dk_invokestatic (by decide +kernel)
theorem dX3_covered_31 : decode cX3_covered 31 = .ok (.istore 6, 2) := dk_istore (by decide +kernel)
theorem dX3_covered_33 : decode cX3_covered 33 = .ok (.iload 6, 2) := dk_iload (by decide +kernel)
theorem dX3_covered_35 : decode cX3_covered 35 = .ok (.ifCond .lt 23, 3) := dk_ifCond_lt (by decide +kernel)
theorem dX3_covered_38 : decode cX3_covered 38 = .ok (.iload 6, 2) := dk_iload (by decide +kernel)
theorem dX3_covered_40 : decode cX3_covered 40 = .ok (.aload_n 0, 1) := dk_aload_n_0 (by decide +kernel)
theorem dX3_covered_41 : decode cX3_covered 41 = .ok (.getfield 31, 3) := dk_getfield (by decide +kernel)
theorem dX3_covered_44 : decode cX3_covered 44 = .ok (.arraylength, 1) := dk_arraylength (by decide +kernel)
theorem dX3_covered_45 : decode cX3_covered 45 = .ok (.if_icmp .ge 13, 3) := dk_if_icmp_ge (by decide +kernel)
theorem dX3_covered_48 : decode cX3_covered 48 = .ok (.lload_n 2, 1) := dk_lload_n_2 (by decide +kernel)
theorem dX3_covered_49 : decode cX3_covered 49 = .ok (.aload_n 0, 1) := dk_aload_n_0 (by decide +kernel)
theorem dX3_covered_50 : decode cX3_covered 50 = .ok (.getfield 31, 3) := dk_getfield (by decide +kernel)
theorem dX3_covered_53 : decode cX3_covered 53 = .ok (.iload 6, 2) := dk_iload (by decide +kernel)
theorem dX3_covered_55 : decode cX3_covered 55 = .ok (.laload, 1) := dk_laload (by decide +kernel)
theorem dX3_covered_56 : decode cX3_covered 56 = .ok (.lor, 1) := dk_lor (by decide +kernel)
theorem dX3_covered_57 : decode cX3_covered 57 = .ok (.lstore_n 2, 1) := dk_lstore_n_2 (by decide +kernel)
theorem dX3_covered_58 : decode cX3_covered 58 = .ok (.iload 4, 2) := dk_iload (by decide +kernel)
theorem dX3_covered_60 : decode cX3_covered 60 = .ok (.iload 4, 2) := dk_iload (by decide +kernel)
theorem dX3_covered_62 : decode cX3_covered 62 = .ok (.iconst 1, 1) := dk_iconst_1 (by decide +kernel)
theorem dX3_covered_63 : decode cX3_covered 63 = .ok (.isub, 1) := dk_isub (by decide +kernel)
theorem dX3_covered_64 : decode cX3_covered 64 = .ok (.iand, 1) := dk_iand (by decide +kernel)
theorem dX3_covered_65 : decode cX3_covered 65 = .ok (.istore 4, 2) := dk_istore (by decide +kernel)
theorem dX3_covered_67 : decode cX3_covered 67 = .ok (.iinc 5 1, 3) := dk_iinc (by decide +kernel)
theorem dX3_covered_70 : decode cX3_covered 70 = .ok (.goto (-62), 3) := dk_goto (by decide +kernel)
theorem dX3_covered_73 : decode cX3_covered 73 = .ok (.lload_n 2, 1) := dk_lload_n_2 (by decide +kernel)
theorem dX3_covered_74 : decode cX3_covered 74 = .ok (.invokestatic 164, 3) := dk_invokestatic (by decide +kernel)
theorem dX3_covered_77 : decode cX3_covered 77 = .ok (.ireturn, 1) := dk_ireturn (by decide +kernel)
theorem dX3_explain_0 : decode cX3_explain 0 = .ok (.aload_n 0, 1) := dk_aload_n_0 (by decide +kernel)
theorem dX3_explain_1 : decode cX3_explain 1 = .ok (.invokevirtual 116, 3) := dk_invokevirtual (by decide +kernel)
theorem dX3_explain_4 : decode cX3_explain 4 = .ok (.istore_n 2, 1) := dk_istore_n_2 (by decide +kernel)
theorem dX3_explain_5 : decode cX3_explain 5 = .ok (.bipush 20, 2) := dk_bipush (by decide +kernel)
theorem dX3_explain_7 : decode cX3_explain 7 = .ok (.istore_n 3, 1) := dk_istore_n_3 (by decide +kernel)
theorem dX3_explain_8 : decode cX3_explain 8 = .ok (.iconst 0, 1) := dk_iconst_0 (by decide +kernel)
theorem dX3_explain_9 : decode cX3_explain 9 = .ok (.istore 4, 2) := dk_istore (by decide +kernel)
theorem dX3_explain_11 : decode cX3_explain 11 = .ok (.bipush (-9), 2) := dk_bipush (by decide +kernel)
theorem dX3_explain_13 : decode cX3_explain 13 = .ok (.istore 5, 2) := dk_istore (by decide +kernel)
theorem dX3_explain_15 : decode cX3_explain 15 = .ok (.iconst 0, 1) := dk_iconst_0 (by decide +kernel)
theorem dX3_explain_16 : decode cX3_explain 16 = .ok (.istore 6, 2) := dk_istore (by decide +kernel)
theorem dX3_explain_18 : decode cX3_explain 18 = .ok (.iconst 0, 1) := dk_iconst_0 (by decide +kernel)
theorem dX3_explain_19 : decode cX3_explain 19 = .ok (.istore 7, 2) := dk_istore (by decide +kernel)
theorem dX3_explain_21 : decode cX3_explain 21 = .ok (.iload 7, 2) := dk_iload (by decide +kernel)
theorem dX3_explain_23 : decode cX3_explain 23 = .ok (.sipush 2048, 3) := dk_sipush (by decide +kernel)
theorem dX3_explain_26 : decode cX3_explain 26 = .ok (.if_icmp .ge 82, 3) := dk_if_icmp_ge (by decide +kernel)
theorem dX3_explain_29 : decode cX3_explain 29 = .ok (.iload 6, 2) := dk_iload (by decide +kernel)
theorem dX3_explain_31 : decode cX3_explain 31 = .ok (.invokestatic 119, 3) := dk_invokestatic (by decide +kernel)
theorem dX3_explain_34 : decode cX3_explain 34 = .ok (.istore 8, 2) := dk_istore (by decide +kernel)
theorem dX3_explain_36 : decode cX3_explain 36 = .ok (.iload 8, 2) := dk_iload (by decide +kernel)
theorem dX3_explain_38 : decode cX3_explain 38 = .ok (.iload_n 3, 1) := dk_iload_n_3 (by decide +kernel)
theorem dX3_explain_39 : decode cX3_explain 39 = .ok (.if_icmp .gt 46, 3) := dk_if_icmp_gt (by decide +kernel)
theorem dX3_explain_42 : decode cX3_explain 42 = .ok (.aload_n 0, 1) := dk_aload_n_0 (by decide +kernel)
theorem dX3_explain_43 : decode cX3_explain 43 = .ok (.iload 6, 2) := dk_iload (by decide +kernel)
theorem dX3_explain_45 : decode cX3_explain 45 = .ok (.invokevirtual 124, 3) := dk_invokevirtual (by decide +kernel)
theorem dX3_explain_48 : decode cX3_explain 48 = .ok (.ifCond .eq 37, 3) := dk_ifCond_eq (by decide +kernel)
theorem dX3_explain_51 : decode cX3_explain 51 = .ok (.iload 8, 2) := dk_iload (by decide +kernel)
theorem dX3_explain_53 : decode cX3_explain 53 = .ok (.iload_n 3, 1) := dk_iload_n_3 (by decide +kernel)
theorem dX3_explain_54 : decode cX3_explain 54 = .ok (.if_icmp .ge 7, 3) := dk_if_icmp_ge (by decide +kernel)
theorem dX3_explain_57 : decode cX3_explain 57 = .ok (.iconst 1, 1) := dk_iconst_1 (by decide +kernel)
theorem dX3_explain_58 : decode cX3_explain 58 = .ok (.goto 7, 3) := dk_goto (by decide +kernel)
theorem dX3_explain_61 : decode cX3_explain 61 = .ok (.iload 4, 2) := dk_iload (by decide +kernel)
theorem dX3_explain_63 : decode cX3_explain 63 = .ok (.iconst 1, 1) := dk_iconst_1 (by decide +kernel)
theorem dX3_explain_64 : decode cX3_explain 64 = .ok (.iadd, 1) := dk_iadd (by decide +kernel)
theorem dX3_explain_65 : decode cX3_explain 65 = .ok (.istore 4, 2) := dk_istore (by decide +kernel)
theorem dX3_explain_67 : decode cX3_explain 67 = .ok (.iload 8, 2) := dk_iload (by decide +kernel)
theorem dX3_explain_69 : decode cX3_explain 69 = .ok (.iload_n 3, 1) := dk_iload_n_3 (by decide +kernel)
theorem dX3_explain_70 : decode cX3_explain 70 = .ok (.if_icmp .ge 8, 3) := dk_if_icmp_ge (by decide +kernel)
theorem dX3_explain_73 : decode cX3_explain 73 = .ok (.iload 6, 2) := dk_iload (by decide +kernel)
theorem dX3_explain_75 : decode cX3_explain 75 = .ok (.goto 5, 3) := dk_goto (by decide +kernel)
theorem dX3_explain_78 : decode cX3_explain 78 = .ok (.iload 5, 2) := dk_iload (by decide +kernel)
theorem dX3_explain_80 : decode cX3_explain 80 = .ok (.istore 5, 2) := dk_istore (by decide +kernel)
theorem dX3_explain_82 : decode cX3_explain 82 = .ok (.iload 8, 2) := dk_iload (by decide +kernel)
theorem dX3_explain_84 : decode cX3_explain 84 = .ok (.istore_n 3, 1) := dk_istore_n_3 (by decide +kernel)
theorem dX3_explain_85 : decode cX3_explain 85 = .ok (.iload 6, 2) := dk_iload (by decide +kernel)
theorem dX3_explain_87 : decode cX3_explain 87 = .ok (.iload_n 2, 1) := dk_iload_n_2 (by decide +kernel)
theorem dX3_explain_88 : decode cX3_explain 88 = .ok (.if_icmp .ne 6, 3) := dk_if_icmp_ne (by decide +kernel)
theorem dX3_explain_91 : decode cX3_explain 91 = .ok (.goto 17, 3) := dk_goto (by decide +kernel)
theorem dX3_explain_94 : decode cX3_explain 94 = .ok (.iload 6, 2) := dk_iload (by decide +kernel)
theorem dX3_explain_96 : decode cX3_explain 96 = .ok (.iload_n 2, 1) := dk_iload_n_2 (by decide +kernel)
theorem dX3_explain_97 : decode cX3_explain 97 = .ok (.isub, 1) := dk_isub (by decide +kernel)
theorem dX3_explain_98 : decode cX3_explain 98 = .ok (.iload_n 2, 1) := dk_iload_n_2 (by decide +kernel)
theorem dX3_explain_99 : decode cX3_explain 99 = .ok (.iand, 1) := dk_iand (by decide +kernel)
theorem dX3_explain_100 : decode cX3_explain 100 = .ok (.istore 6, 2) := dk_istore (by decide +kernel)
theorem dX3_explain_102 : decode cX3_explain 102 = .ok (.iinc 7 1, 3) := dk_iinc (by decide +kernel)
theorem dX3_explain_105 : decode cX3_explain 105 = .ok (.goto (-84), 3) := dk_goto (by decide +kernel)
theorem dX3_explain_108 : decode cX3_explain 108 = .ok (.iload 5, 2) := dk_iload (by decide +kernel)
theorem dX3_explain_110 : decode cX3_explain 110 = .ok (.bipush (-9), 2) := dk_bipush (by decide +kernel)
theorem dX3_explain_112 : decode cX3_explain 112 = .ok (.if_icmp .ne 6, 3) := dk_if_icmp_ne (by decide +kernel)
theorem dX3_explain_115 : decode cX3_explain 115 = .ok (.bipush (-9), 2) := dk_bipush (by decide +kernel)
theorem dX3_explain_117 : decode cX3_explain 117 = .ok (.ireturn, 1) := dk_ireturn (by decide +kernel)
theorem dX3_explain_118 : decode cX3_explain 118 = .ok (.iload_n 1, 1) := dk_iload_n_1 (by decide +kernel)
theorem dX3_explain_119 : decode cX3_explain 119 = .ok (.ifCond .ne 7, 3) := dk_ifCond_ne (by decide +kernel)
theorem dX3_explain_122 : decode cX3_explain 122 = .ok (.iload_n 3, 1) := dk_iload_n_3 (by decide +kernel)
theorem dX3_explain_123 : decode cX3_explain 123 = .ok (.goto 15, 3) := dk_goto (by decide +kernel)
theorem dX3_explain_126 : decode cX3_explain 126 = .ok (.iload_n 1, 1) := dk_iload_n_1 (by decide +kernel)
theorem dX3_explain_127 : decode cX3_explain 127 = .ok (.iconst 1, 1) := dk_iconst_1 (by decide +kernel)
theorem dX3_explain_128 : decode cX3_explain 128 = .ok (.if_icmp .ne 8, 3) := dk_if_icmp_ne (by decide +kernel)
theorem dX3_explain_131 : decode cX3_explain 131 = .ok (.iload 4, 2) := dk_iload (by decide +kernel)
theorem dX3_explain_133 : decode cX3_explain 133 = .ok (.goto 5, 3) := dk_goto (by decide +kernel)
theorem dX3_explain_136 : decode cX3_explain 136 = .ok (.iload 5, 2) := dk_iload (by decide +kernel)
theorem dX3_explain_138 : decode cX3_explain 138 = .ok (.ireturn, 1) := dk_ireturn (by decide +kernel)
theorem dX3_fewestHours_0 : decode cX3_fewestHours 0 = .ok (.aload_n 0, 1) := dk_aload_n_0 (by decide +kernel)
theorem dX3_fewestHours_1 : decode cX3_fewestHours 1 = .ok (.iload_n 1, 1) := dk_iload_n_1 (by decide +kernel)
theorem dX3_fewestHours_2 : decode cX3_fewestHours 2 = .ok (.invokevirtual 169, 3) := dk_invokevirtual (by decide +kernel)
theorem dX3_fewestHours_5 : decode cX3_fewestHours 5 = .ok (.iload_n 2, 1) := dk_iload_n_2 (by decide +kernel)
theorem dX3_fewestHours_6 : decode cX3_fewestHours 6 = .ok (.if_icmp .ge 6, 3) := dk_if_icmp_ge (by decide +kernel)
theorem dX3_fewestHours_9 : decode cX3_fewestHours 9 = .ok (.bipush (-9), 2) := dk_bipush (by decide +kernel)
theorem dX3_fewestHours_11 : decode cX3_fewestHours 11 = .ok (.ireturn, 1) := dk_ireturn (by decide +kernel)
theorem dX3_fewestHours_12 : decode cX3_fewestHours 12 = .ok (.bipush 25, 2) := dk_bipush (by decide +kernel)
theorem dX3_fewestHours_14 : decode cX3_fewestHours 14 = .ok (.istore_n 3, 1) := dk_istore_n_3 (by decide +kernel)
theorem dX3_fewestHours_15 : decode cX3_fewestHours 15 = .ok (.bipush (-9), 2) := dk_bipush (by decide +kernel)
theorem dX3_fewestHours_17 : decode cX3_fewestHours 17 = .ok (.istore 4, 2) := dk_istore (by decide +kernel)
theorem dX3_fewestHours_19 : decode cX3_fewestHours 19 = .ok (.iconst 0, 1) := dk_iconst_0 (by decide +kernel)
theorem dX3_fewestHours_20 : decode cX3_fewestHours 20 = .ok (.istore 5, 2) := dk_istore (by decide +kernel)
theorem dX3_fewestHours_22 : decode cX3_fewestHours 22 = .ok (.iconst 0, 1) := dk_iconst_0 (by decide +kernel)
theorem dX3_fewestHours_23 : decode cX3_fewestHours 23 = .ok (.istore 6, 2) := dk_istore (by decide +kernel)
theorem dX3_fewestHours_25 : decode cX3_fewestHours 25 = .ok (.iload 6, 2) := dk_iload (by decide +kernel)
theorem dX3_fewestHours_27 : decode cX3_fewestHours 27 = .ok (.sipush 4096, 3) := dk_sipush (by decide +kernel)
theorem dX3_fewestHours_30 : decode cX3_fewestHours 30 = .ok (.if_icmp .ge 56, 3) := dk_if_icmp_ge (by decide +kernel)
theorem dX3_fewestHours_33 : decode cX3_fewestHours 33 = .ok (.iload 5, 2) := dk_iload (by decide +kernel)
theorem dX3_fewestHours_35 : decode cX3_fewestHours 35 = .ok (.invokestatic 119, 3) := dk_invokestatic (by decide +kernel)
theorem dX3_fewestHours_38 : decode cX3_fewestHours 38 = .ok (.istore 7, 2) := dk_istore (by decide +kernel)
theorem dX3_fewestHours_40 : decode cX3_fewestHours 40 = .ok (.iload 7, 2) := dk_iload (by decide +kernel)
theorem dX3_fewestHours_42 : decode cX3_fewestHours 42 = .ok (.iload_n 3, 1) := dk_iload_n_3 (by decide +kernel)
theorem dX3_fewestHours_43 : decode cX3_fewestHours 43 = .ok (.if_icmp .ge 20, 3) := dk_if_icmp_ge (by decide +kernel)
theorem dX3_fewestHours_46 : decode cX3_fewestHours 46 = .ok (.aload_n 0, 1) := dk_aload_n_0 (by decide +kernel)
theorem dX3_fewestHours_47 : decode cX3_fewestHours 47 = .ok (.iload 5, 2) := dk_iload (by decide +kernel)
theorem dX3_fewestHours_49 : decode cX3_fewestHours 49 = .ok (.invokevirtual 169, 3) := dk_invokevirtual (by decide +kernel)
theorem dX3_fewestHours_52 : decode cX3_fewestHours 52 = .ok (.iload_n 2, 1) := dk_iload_n_2 (by decide +kernel)
theorem dX3_fewestHours_53 : decode cX3_fewestHours 53 = .ok (.if_icmp .lt 10, 3) := dk_if_icmp_lt (by decide +kernel)
theorem dX3_fewestHours_56 : decode cX3_fewestHours 56 = .ok (.iload 7, 2) := dk_iload (by decide +kernel)
theorem dX3_fewestHours_58 : decode cX3_fewestHours 58 = .ok (.istore_n 3, 1) := dk_istore_n_3 (by decide +kernel)
theorem dX3_fewestHours_59 : decode cX3_fewestHours 59 = .ok (.iload 5, 2) := dk_iload (by decide +kernel)
theorem dX3_fewestHours_61 : decode cX3_fewestHours 61 = .ok (.istore 4, 2) := dk_istore (by decide +kernel)
theorem dX3_fewestHours_63 : decode cX3_fewestHours 63 = .ok (.iload 5, 2) := dk_iload (by decide +kernel)
theorem dX3_fewestHours_65 : decode cX3_fewestHours 65 = .ok (.iload_n 1, 1) := dk_iload_n_1 (by decide +kernel)
theorem dX3_fewestHours_66 : decode cX3_fewestHours 66 = .ok (.if_icmp .ne 6, 3) := dk_if_icmp_ne (by decide +kernel)
theorem dX3_fewestHours_69 : decode cX3_fewestHours 69 = .ok (.goto 17, 3) := dk_goto (by decide +kernel)
theorem dX3_fewestHours_72 : decode cX3_fewestHours 72 = .ok (.iload 5, 2) := dk_iload (by decide +kernel)
theorem dX3_fewestHours_74 : decode cX3_fewestHours 74 = .ok (.iload_n 1, 1) := dk_iload_n_1 (by decide +kernel)
theorem dX3_fewestHours_75 : decode cX3_fewestHours 75 = .ok (.isub, 1) := dk_isub (by decide +kernel)
theorem dX3_fewestHours_76 : decode cX3_fewestHours 76 = .ok (.iload_n 1, 1) := dk_iload_n_1 (by decide +kernel)
theorem dX3_fewestHours_77 : decode cX3_fewestHours 77 = .ok (.iand, 1) := dk_iand (by decide +kernel)
theorem dX3_fewestHours_78 : decode cX3_fewestHours 78 = .ok (.istore 5, 2) := dk_istore (by decide +kernel)
theorem dX3_fewestHours_80 : decode cX3_fewestHours 80 = .ok (.iinc 6 1, 3) := dk_iinc (by decide +kernel)
theorem dX3_fewestHours_83 : decode cX3_fewestHours 83 = .ok (.goto (-58), 3) := dk_goto (by decide +kernel)
theorem dX3_fewestHours_86 : decode cX3_fewestHours 86 = .ok (.iload 4, 2) := dk_iload (by decide +kernel)
theorem dX3_fewestHours_88 : decode cX3_fewestHours 88 = .ok (.ireturn, 1) := dk_ireturn (by decide +kernel)
theorem dX3_allReachedWith_0 : decode cX3_allReachedWith 0 = .ok (.aload_n 0, 1) := dk_aload_n_0 (by decide +kernel)
theorem dX3_allReachedWith_1 : decode cX3_allReachedWith 1 = .ok (.iload_n 1, 1) := dk_iload_n_1 (by decide +kernel)
theorem dX3_allReachedWith_2 : decode cX3_allReachedWith 2 = .ok (.invokevirtual 143, 3) := dk_invokevirtual (by decide +kernel)
theorem dX3_allReachedWith_5 : decode cX3_allReachedWith 5 = .ok (.aload_n 0, 1) := dk_aload_n_0 (by decide +kernel)
theorem dX3_allReachedWith_6 : decode cX3_allReachedWith 6 = .ok (.iload_n 2, 1) := dk_iload_n_2 (by decide +kernel)
theorem dX3_allReachedWith_7 : decode cX3_allReachedWith 7 = .ok (.aload_n 0, 1) := dk_aload_n_0 (by decide +kernel)
theorem dX3_allReachedWith_8 : decode cX3_allReachedWith 8 = .ok (.getfield 153, 3) := dk_getfield (by decide +kernel)
theorem dX3_allReachedWith_11 : decode cX3_allReachedWith 11 = .ok (.iconst (-1), 1) := dk_iconst_m1 (by decide +kernel)
theorem dX3_allReachedWith_12 : decode cX3_allReachedWith 12 = .ok (.invokevirtual 105, 3) := dk_invokevirtual (by decide +kernel)
theorem dX3_allReachedWith_15 : decode cX3_allReachedWith 15 = .ok (.iconst 0, 1) := dk_iconst_0 (by decide +kernel)
theorem dX3_allReachedWith_16 : decode cX3_allReachedWith 16 = .ok (.istore_n 3, 1) := dk_istore_n_3 (by decide +kernel)
theorem dX3_allReachedWith_17 : decode cX3_allReachedWith 17 = .ok (.iload_n 3, 1) := dk_iload_n_3 (by decide +kernel)
theorem dX3_allReachedWith_18 : decode cX3_allReachedWith 18 = .ok (.aload_n 0, 1) := dk_aload_n_0 (by decide +kernel)
theorem dX3_allReachedWith_19 : decode cX3_allReachedWith 19 = .ok (.getfield 21, 3) := dk_getfield (by decide +kernel)
theorem dX3_allReachedWith_22 : decode cX3_allReachedWith 22 = .ok (.invokevirtual 44, 3) := dk_invokevirtual (by decide +kernel)
theorem dX3_allReachedWith_25 : decode cX3_allReachedWith 25 = .ok (.if_icmp .ge 32, 3) := dk_if_icmp_ge (by decide +kernel)
theorem dX3_allReachedWith_28 : decode cX3_allReachedWith 28 = .ok (.aload_n 0, 1) := dk_aload_n_0 (by decide +kernel)
theorem dX3_allReachedWith_29 : decode cX3_allReachedWith 29 = .ok (.getfield 21, 3) := dk_getfield (by decide +kernel)
theorem dX3_allReachedWith_32 : decode cX3_allReachedWith 32 = .ok (.iload_n 3, 1) := dk_iload_n_3 (by decide +kernel)
theorem dX3_allReachedWith_33 : decode cX3_allReachedWith 33 = .ok (.invokevirtual 48, 3) := dk_invokevirtual (by decide +kernel)
theorem dX3_allReachedWith_36 : decode cX3_allReachedWith 36 = .ok (.checkcast 52, 3) := dk_checkcast (by decide +kernel)
theorem dX3_allReachedWith_39 : decode cX3_allReachedWith 39 = .ok (.aload_n 0, 1) := dk_aload_n_0 (by decide +kernel)
theorem dX3_allReachedWith_40 : decode cX3_allReachedWith 40 = .ok (.getfield 27, 3) := dk_getfield (by decide +kernel)
theorem dX3_allReachedWith_43 : decode cX3_allReachedWith 43 = .ok (.invokevirtual 79, 3) := dk_invokevirtual (by decide +kernel)
theorem dX3_allReachedWith_46 : decode cX3_allReachedWith 46 = .ok (.ifCond .ne 5, 3) := dk_ifCond_ne (by decide +kernel)
theorem dX3_allReachedWith_49 : decode cX3_allReachedWith 49 = .ok (.iconst 0, 1) := dk_iconst_0 (by decide +kernel)
theorem dX3_allReachedWith_50 : decode cX3_allReachedWith 50 = .ok (.ireturn, 1) := dk_ireturn (by decide +kernel)
theorem dX3_allReachedWith_51 : decode cX3_allReachedWith 51 = .ok (.iinc 3 1, 3) := dk_iinc (by decide +kernel)
theorem dX3_allReachedWith_54 : decode cX3_allReachedWith 54 = .ok (.goto (-37), 3) := dk_goto (by decide +kernel)
theorem dX3_allReachedWith_57 : decode cX3_allReachedWith 57 = .ok (.iconst 1, 1) := dk_iconst_1 (by decide +kernel)
theorem dX3_allReachedWith_58 : decode cX3_allReachedWith 58 = .ok (.ireturn, 1) := dk_ireturn (by decide +kernel)
set_option maxHeartbeats 4000000 in
set_option maxRecDepth 100000 in
theorem c_J6_bitCount_0f7a4 (l : Launch) (g : gG) (J : Nat → Nat → Int32) (L : Nat → Nat → Int64) (I : Nat → Nat → Nat → Int32) (P : Nat → Nat → Nat → Option Nat) (E : Nat → Option Nat) (N : Nat → Nat) (dy : List (Nat × Nat)) (sz : Nat) (a0 : Int32)  : Met l yJ6_bitCount_0f7a4 (WS yJ6_bitCount_0f7a4 cJ6_bitCount_0f7a4 1 (some .int)) (RM (1) 0 0) (PC g [.int a0] ((J, L, I, P, E, N), sgX g ++ dy) sz) (va_Qi (fun (r : Int32) (u : Unit) => True) (fun u t => at_ g (FR g ((J, L, I, P, E, N), sgX g ++ dy) sz) ((J, L, I, P, E, N), sgX g ++ dy) t) (FR g ((J, L, I, P, E, N), sgX g ++ dy) sz)) 0 0 (FR g ((J, L, I, P, E, N), sgX g ++ dy) sz) := by
  refine ent (by decide +kernel) (Nat.le_of_ble_eq_true rfl) ?_
  intro p e s m below meth c ls hsz C hW hr hlocks hname hl
  generalize FR g ((J, L, I, P, E, N), sgX g ++ dy) sz = A at C hW ⊢
  have hx := C.1.1
  have hb := C.1.2.1
  have hts := C.1.2.2.2.2
  have hl : lv_has ls 1 [(0, .int a0)] := hl
  obtain ⟨H, hH⟩ : ∃ H : Heap, H = s.heap := ⟨_, rfl⟩
  obtain ⟨locs, hlocs⟩ : ∃ q : List Loc, q = [] := ⟨_, rfl⟩
  have hW : WB g A s.heap H locs (J, L, I, P, E, N) (sgX g ++ dy) := by rw [hH, hlocs]; exact hW
  refine start_ hH hlocs ?_
  refine lv_iload_n hx hb dJ6_bitCount_0f7a4_0 rfl (lv_at hl 0 rfl) ?_
  refine lv_iload_n hx hb dJ6_bitCount_0f7a4_1 rfl (lv_at hl 0 rfl) ?_
  refine lv_iconst (v := 1) hx hb dJ6_bitCount_0f7a4_2 (by decide) ?_
  refine lv_iushr hx hb dJ6_bitCount_0f7a4_3 rfl ?_
  refine lv_topi (fun x1 (e1 : x1 = ((a0 : Int32).toUInt32 >>> ((1 : Int32).toUInt32 &&& Int32.toUInt32 31)).toInt32) => ?_)
  refine lv_ldcw hx hb C.1.2.2.2.1 (hts _ tw_867) dJ6_bitCount_0f7a4_4 ?_
  refine lv_iand hx hb dJ6_bitCount_0f7a4_7 ?_
  refine lv_topi (fun x2 (e2 : x2 = x1 &&& 1431655765) => ?_)
  refine lv_isub hx hb dJ6_bitCount_0f7a4_8 ?_
  refine lv_topi (fun x3 (e3 : x3 = a0 - x2) => ?_)
  refine lv_istore_n (lv' := [(0, .int x3)]) hx hb dJ6_bitCount_0f7a4_9 rfl hl (by decide) rfl (fun ls hl => ?_)
  refine lv_iload_n hx hb dJ6_bitCount_0f7a4_10 rfl (lv_at hl 0 rfl) ?_
  refine lv_ldcw hx hb C.1.2.2.2.1 (hts _ tw_868) dJ6_bitCount_0f7a4_11 ?_
  refine lv_iand hx hb dJ6_bitCount_0f7a4_14 ?_
  refine lv_topi (fun x4 (e4 : x4 = x3 &&& 858993459) => ?_)
  refine lv_iload_n hx hb dJ6_bitCount_0f7a4_15 rfl (lv_at hl 0 rfl) ?_
  refine lv_iconst (v := 2) hx hb dJ6_bitCount_0f7a4_16 (by decide) ?_
  refine lv_iushr hx hb dJ6_bitCount_0f7a4_17 rfl ?_
  refine lv_topi (fun x5 (e5 : x5 = ((x3 : Int32).toUInt32 >>> ((2 : Int32).toUInt32 &&& Int32.toUInt32 31)).toInt32) => ?_)
  refine lv_ldcw hx hb C.1.2.2.2.1 (hts _ tw_868) dJ6_bitCount_0f7a4_18 ?_
  refine lv_iand hx hb dJ6_bitCount_0f7a4_21 ?_
  refine lv_topi (fun x6 (e6 : x6 = x5 &&& 858993459) => ?_)
  refine lv_iadd hx hb dJ6_bitCount_0f7a4_22 ?_
  refine lv_topi (fun x7 (e7 : x7 = x4 + x6) => ?_)
  refine lv_istore_n (lv' := [(0, .int x7)]) hx hb dJ6_bitCount_0f7a4_23 rfl hl (by decide) rfl (fun ls hl => ?_)
  refine lv_iload_n hx hb dJ6_bitCount_0f7a4_24 rfl (lv_at hl 0 rfl) ?_
  refine lv_iload_n hx hb dJ6_bitCount_0f7a4_25 rfl (lv_at hl 0 rfl) ?_
  refine lv_iconst (v := 4) hx hb dJ6_bitCount_0f7a4_26 (by decide) ?_
  refine lv_iushr hx hb dJ6_bitCount_0f7a4_27 rfl ?_
  refine lv_topi (fun x8 (e8 : x8 = ((x7 : Int32).toUInt32 >>> ((4 : Int32).toUInt32 &&& Int32.toUInt32 31)).toInt32) => ?_)
  refine lv_iadd hx hb dJ6_bitCount_0f7a4_28 ?_
  refine lv_topi (fun x9 (e9 : x9 = x7 + x8) => ?_)
  refine lv_ldcw hx hb C.1.2.2.2.1 (hts _ tw_869) dJ6_bitCount_0f7a4_29 ?_
  refine lv_iand hx hb dJ6_bitCount_0f7a4_32 ?_
  refine lv_topi (fun x10 (e10 : x10 = x9 &&& 252645135) => ?_)
  refine lv_istore_n (lv' := [(0, .int x10)]) hx hb dJ6_bitCount_0f7a4_33 rfl hl (by decide) rfl (fun ls hl => ?_)
  refine lv_iload_n hx hb dJ6_bitCount_0f7a4_34 rfl (lv_at hl 0 rfl) ?_
  refine lv_iload_n hx hb dJ6_bitCount_0f7a4_35 rfl (lv_at hl 0 rfl) ?_
  refine lv_bipush (v := 8) hx hb dJ6_bitCount_0f7a4_36 (by decide) ?_
  refine lv_iushr hx hb dJ6_bitCount_0f7a4_38 rfl ?_
  refine lv_topi (fun x11 (e11 : x11 = ((x10 : Int32).toUInt32 >>> ((8 : Int32).toUInt32 &&& Int32.toUInt32 31)).toInt32) => ?_)
  refine lv_iadd hx hb dJ6_bitCount_0f7a4_39 ?_
  refine lv_topi (fun x12 (e12 : x12 = x10 + x11) => ?_)
  refine lv_istore_n (lv' := [(0, .int x12)]) hx hb dJ6_bitCount_0f7a4_40 rfl hl (by decide) rfl (fun ls hl => ?_)
  refine lv_iload_n hx hb dJ6_bitCount_0f7a4_41 rfl (lv_at hl 0 rfl) ?_
  refine lv_iload_n hx hb dJ6_bitCount_0f7a4_42 rfl (lv_at hl 0 rfl) ?_
  refine lv_bipush (v := 16) hx hb dJ6_bitCount_0f7a4_43 (by decide) ?_
  refine lv_iushr hx hb dJ6_bitCount_0f7a4_45 rfl ?_
  refine lv_topi (fun x13 (e13 : x13 = ((x12 : Int32).toUInt32 >>> ((16 : Int32).toUInt32 &&& Int32.toUInt32 31)).toInt32) => ?_)
  refine lv_iadd hx hb dJ6_bitCount_0f7a4_46 ?_
  refine lv_topi (fun x14 (e14 : x14 = x12 + x13) => ?_)
  refine lv_istore_n (lv' := [(0, .int x14)]) hx hb dJ6_bitCount_0f7a4_47 rfl hl (by decide) rfl (fun ls hl => ?_)
  refine lv_iload_n hx hb dJ6_bitCount_0f7a4_48 rfl (lv_at hl 0 rfl) ?_
  refine lv_bipush (v := 63) hx hb dJ6_bitCount_0f7a4_49 (by decide) ?_
  refine lv_iand hx hb dJ6_bitCount_0f7a4_51 ?_
  refine lv_topi (fun x15 (e15 : x15 = x14 &&& 63) => ?_)
  exact end_i C hr hlocks () hW trivial dJ6_bitCount_0f7a4_52

set_option maxHeartbeats 4000000 in
set_option maxRecDepth 100000 in
theorem c_J13_bitCount_95d88 (l : Launch) (g : gG) (J : Nat → Nat → Int32) (L : Nat → Nat → Int64) (I : Nat → Nat → Nat → Int32) (P : Nat → Nat → Nat → Option Nat) (E : Nat → Option Nat) (N : Nat → Nat) (dy : List (Nat × Nat)) (sz : Nat) (a0 : Int64)  : Met l yJ13_bitCount_95d88 (WS yJ13_bitCount_95d88 cJ13_bitCount_95d88 2 (some .int)) (RM (1) 0 0) (PC g [.long a0] ((J, L, I, P, E, N), sgX g ++ dy) sz) (va_Qi (fun (r : Int32) (u : Unit) => True) (fun u t => at_ g (FR g ((J, L, I, P, E, N), sgX g ++ dy) sz) ((J, L, I, P, E, N), sgX g ++ dy) t) (FR g ((J, L, I, P, E, N), sgX g ++ dy) sz)) 0 0 (FR g ((J, L, I, P, E, N), sgX g ++ dy) sz) := by
  refine ent (by decide +kernel) (Nat.le_of_ble_eq_true rfl) ?_
  intro p e s m below meth c ls hsz C hW hr hlocks hname hl
  generalize FR g ((J, L, I, P, E, N), sgX g ++ dy) sz = A at C hW ⊢
  have hx := C.1.1
  have hb := C.1.2.1
  have hts := C.1.2.2.2.2
  have hl : lv_has ls 2 [(0, .long a0)] := hl
  obtain ⟨H, hH⟩ : ∃ H : Heap, H = s.heap := ⟨_, rfl⟩
  obtain ⟨locs, hlocs⟩ : ∃ q : List Loc, q = [] := ⟨_, rfl⟩
  have hW : WB g A s.heap H locs (J, L, I, P, E, N) (sgX g ++ dy) := by rw [hH, hlocs]; exact hW
  refine start_ hH hlocs ?_
  refine lv_lload_n hx hb dJ13_bitCount_95d88_0 rfl (lv_at hl 0 rfl) ?_
  refine lv_lload_n hx hb dJ13_bitCount_95d88_1 rfl (lv_at hl 0 rfl) ?_
  refine lv_iconst (v := 1) hx hb dJ13_bitCount_95d88_2 (by decide) ?_
  refine lv_lushr hx hb dJ13_bitCount_95d88_3 rfl ?_
  refine lv_topl (fun z1 ez1 => ?_)
  refine lv_ldc2 hx hb C.1.2.2.2.1 (hts _ tw_920) dJ13_bitCount_95d88_4 ?_
  refine lv_land hx hb dJ13_bitCount_95d88_7 ?_
  refine lv_topl (fun z2 ez2 => ?_)
  refine lv_lsub hx hb dJ13_bitCount_95d88_8 ?_
  refine lv_topl (fun z3 ez3 => ?_)
  refine lv_lstore_n (lv' := [(0, .long z3)]) hx hb dJ13_bitCount_95d88_9 rfl hl (by decide) rfl (fun ls hl => ?_)
  refine lv_lload_n hx hb dJ13_bitCount_95d88_10 rfl (lv_at hl 0 rfl) ?_
  refine lv_ldc2 hx hb C.1.2.2.2.1 (hts _ tw_921) dJ13_bitCount_95d88_11 ?_
  refine lv_land hx hb dJ13_bitCount_95d88_14 ?_
  refine lv_topl (fun z4 ez4 => ?_)
  refine lv_lload_n hx hb dJ13_bitCount_95d88_15 rfl (lv_at hl 0 rfl) ?_
  refine lv_iconst (v := 2) hx hb dJ13_bitCount_95d88_16 (by decide) ?_
  refine lv_lushr hx hb dJ13_bitCount_95d88_17 rfl ?_
  refine lv_topl (fun z5 ez5 => ?_)
  refine lv_ldc2 hx hb C.1.2.2.2.1 (hts _ tw_921) dJ13_bitCount_95d88_18 ?_
  refine lv_land hx hb dJ13_bitCount_95d88_21 ?_
  refine lv_topl (fun z6 ez6 => ?_)
  refine lv_ladd hx hb dJ13_bitCount_95d88_22 ?_
  refine lv_topl (fun z7 ez7 => ?_)
  refine lv_lstore_n (lv' := [(0, .long z7)]) hx hb dJ13_bitCount_95d88_23 rfl hl (by decide) rfl (fun ls hl => ?_)
  refine lv_lload_n hx hb dJ13_bitCount_95d88_24 rfl (lv_at hl 0 rfl) ?_
  refine lv_lload_n hx hb dJ13_bitCount_95d88_25 rfl (lv_at hl 0 rfl) ?_
  refine lv_iconst (v := 4) hx hb dJ13_bitCount_95d88_26 (by decide) ?_
  refine lv_lushr hx hb dJ13_bitCount_95d88_27 rfl ?_
  refine lv_topl (fun z8 ez8 => ?_)
  refine lv_ladd hx hb dJ13_bitCount_95d88_28 ?_
  refine lv_topl (fun z9 ez9 => ?_)
  refine lv_ldc2 hx hb C.1.2.2.2.1 (hts _ tw_922) dJ13_bitCount_95d88_29 ?_
  refine lv_land hx hb dJ13_bitCount_95d88_32 ?_
  refine lv_topl (fun z10 ez10 => ?_)
  refine lv_lstore_n (lv' := [(0, .long z10)]) hx hb dJ13_bitCount_95d88_33 rfl hl (by decide) rfl (fun ls hl => ?_)
  refine lv_lload_n hx hb dJ13_bitCount_95d88_34 rfl (lv_at hl 0 rfl) ?_
  refine lv_lload_n hx hb dJ13_bitCount_95d88_35 rfl (lv_at hl 0 rfl) ?_
  refine lv_bipush (v := 8) hx hb dJ13_bitCount_95d88_36 (by decide) ?_
  refine lv_lushr hx hb dJ13_bitCount_95d88_38 rfl ?_
  refine lv_topl (fun z11 ez11 => ?_)
  refine lv_ladd hx hb dJ13_bitCount_95d88_39 ?_
  refine lv_topl (fun z12 ez12 => ?_)
  refine lv_lstore_n (lv' := [(0, .long z12)]) hx hb dJ13_bitCount_95d88_40 rfl hl (by decide) rfl (fun ls hl => ?_)
  refine lv_lload_n hx hb dJ13_bitCount_95d88_41 rfl (lv_at hl 0 rfl) ?_
  refine lv_lload_n hx hb dJ13_bitCount_95d88_42 rfl (lv_at hl 0 rfl) ?_
  refine lv_bipush (v := 16) hx hb dJ13_bitCount_95d88_43 (by decide) ?_
  refine lv_lushr hx hb dJ13_bitCount_95d88_45 rfl ?_
  refine lv_topl (fun z13 ez13 => ?_)
  refine lv_ladd hx hb dJ13_bitCount_95d88_46 ?_
  refine lv_topl (fun z14 ez14 => ?_)
  refine lv_lstore_n (lv' := [(0, .long z14)]) hx hb dJ13_bitCount_95d88_47 rfl hl (by decide) rfl (fun ls hl => ?_)
  refine lv_lload_n hx hb dJ13_bitCount_95d88_48 rfl (lv_at hl 0 rfl) ?_
  refine lv_lload_n hx hb dJ13_bitCount_95d88_49 rfl (lv_at hl 0 rfl) ?_
  refine lv_bipush (v := 32) hx hb dJ13_bitCount_95d88_50 (by decide) ?_
  refine lv_lushr hx hb dJ13_bitCount_95d88_52 rfl ?_
  refine lv_topl (fun z15 ez15 => ?_)
  refine lv_ladd hx hb dJ13_bitCount_95d88_53 ?_
  refine lv_topl (fun z16 ez16 => ?_)
  refine lv_lstore_n (lv' := [(0, .long z16)]) hx hb dJ13_bitCount_95d88_54 rfl hl (by decide) rfl (fun ls hl => ?_)
  refine lv_lload_n hx hb dJ13_bitCount_95d88_55 rfl (lv_at hl 0 rfl) ?_
  refine lv_l2i (v := z16.toInt32) hx hb dJ13_bitCount_95d88_56 rfl ?_
  refine lv_topi (fun x17 (e17 : x17 = z16.toInt32) => ?_)
  refine lv_bipush (v := 127) hx hb dJ13_bitCount_95d88_57 (by decide) ?_
  refine lv_iand hx hb dJ13_bitCount_95d88_59 ?_
  refine lv_topi (fun x18 (e18 : x18 = x17 &&& 127) => ?_)
  exact end_i C hr hlocks () hW trivial dJ13_bitCount_95d88_60

set_option maxHeartbeats 4000000 in
set_option maxRecDepth 100000 in
theorem c_X3_covered (l : Launch) (g : gG) (J : Nat → Nat → Int32) (L : Nat → Nat → Int64) (I : Nat → Nat → Nat → Int32) (P : Nat → Nat → Nat → Option Nat) (E : Nat → Option Nat) (N : Nat → Nat) (dy : List (Nat × Nat)) (sz : Nat) (a0 : Int32) (hwf : WXF g J P E N dy) : Met l yX3_covered (WS yX3_covered cX3_covered 7 (some .int)) (RM (3) 0 0) (PC g [.ref (g.2.2.1 4), .int a0] ((J, L, I, P, E, N), sgX g ++ dy) sz) (va_Qi (fun (r : Int32) (u : Unit) => True) (fun u t => at_ g (FR g ((J, L, I, P, E, N), sgX g ++ dy) sz) ((J, L, I, P, E, N), sgX g ++ dy) t) (FR g ((J, L, I, P, E, N), sgX g ++ dy) sz)) 0 0 (FR g ((J, L, I, P, E, N), sgX g ++ dy) sz) := by
  refine ent (by decide +kernel) (Nat.le_of_ble_eq_true rfl) ?_
  intro p e s m below meth c ls hsz C hW hr hlocks hname hl
  generalize FR g ((J, L, I, P, E, N), sgX g ++ dy) sz = A at C hW ⊢
  have hx := C.1.1
  have hb := C.1.2.1
  have hts := C.1.2.2.2.2
  have hl : lv_has ls 7 [(0, .ref (g.2.2.1 4)), (1, .int a0)] := hl
  obtain ⟨H, hH⟩ : ∃ H : Heap, H = s.heap := ⟨_, rfl⟩
  obtain ⟨locs, hlocs⟩ : ∃ q : List Loc, q = [] := ⟨_, rfl⟩
  have hW : WB g A s.heap H locs (J, L, I, P, E, N) (sgX g ++ dy) := by rw [hH, hlocs]; exact hW
  refine start_ hH hlocs ?_
  refine lv_lconst (v := 0) hx hb dX3_covered_0 (by decide) ?_
  refine lv_lstore_n (lv' := [(2, .long (0 : Int64)), (0, .ref (g.2.2.1 4)), (1, .int a0)]) hx hb dX3_covered_1 rfl hl (by decide) rfl (fun ls hl => ?_)
  refine lv_iload_n hx hb dX3_covered_2 rfl (lv_at hl 2 rfl) ?_
  refine lv_istore (lv' := [(4, .int a0), (2, .long (0 : Int64)), (0, .ref (g.2.2.1 4)), (1, .int a0)]) hx hb dX3_covered_3 hl (by decide) rfl (fun ls hl => ?_)
  refine lv_iconst (v := 0) hx hb dX3_covered_5 (by decide) ?_
  refine lv_istore (lv' := [(5, .int 0), (4, .int a0), (2, .long (0 : Int64)), (0, .ref (g.2.2.1 4)), (1, .int a0)]) hx hb dX3_covered_6 hl (by decide) rfl (fun ls hl => ?_)
  have loop8 : ∀ (n : Nat) (m2 : Int64) (m4 : Int32) (m5 : Int32) (H : Heap) (locs : List Loc) (ls : Array Slot), (24 - m5.toInt).toNat < n → 0 ≤ m5.toInt → WB g A s.heap H locs (J, L, I, P, E, N) (sgX g ++ dy) → lv_has ls 7 [(5, .int m5), (4, .int m4), (2, .long m2), (0, .ref (g.2.2.1 4)), (1, .int a0)] → W p l e (RM (3) 0 0) s m ([.ref (g.2.2.1 4), .int a0] : List Value).toArray below meth c H locs 0 0 (MQ below (va_Qi (fun (r : Int32) (u : Unit) => True) (fun u t => at_ g A ((J, L, I, P, E, N), sgX g ++ dy) t) A) ([.ref (g.2.2.1 4), .int a0] : List Value).toArray s 0 0 A) (F0 m 8 ls []) := by
    intro n
    induction n with
    | zero => intro m2 m4 m5 H locs ls hmeas; exact absurd hmeas (Nat.not_lt_zero _)
    | succ n ih =>
      intro m2 m4 m5 H locs ls hmeas hi hW hl
      refine lv_iload hx hb dX3_covered_8 (lv_at hl 0 rfl) ?_
      refine lv_bipush (v := 24) hx hb dX3_covered_10 (by decide) ?_
      refine lv_icmp_ge (tgt := 73) hx hb dX3_covered_12 (by decide) (fun c1 => ?_) (fun c1 => ?_)
      · have c1 : 24 ≤ m5.toInt := tle kp24 rfl c1
        refine lv_lload_n hx hb dX3_covered_73 rfl (lv_at hl 2 rfl) ?_
        refine ci_ C hW (runS (As := [.long m2]) (rest := []) (T := ((J, L, I, P, E, N), sgX g ++ dy)) C hW (c_J13_bitCount_95d88 l g J L I P E N dy H.size m2 ) mi_J13_bitCount_95d88 tw_917 ⟨rfl, rfl, Nat.le_of_ble_eq_true rfl, Nat.le_of_ble_eq_true rfl⟩ rfl hl.1 rfl (Nat.le_of_ble_eq_true rfl) dX3_covered_74 ⟨Nat.le_of_ble_eq_true rfl, Nat.le_of_ble_eq_true rfl⟩) (fun r2 u2 H locs hp2 hW => ?_)
        have hW : WB g A s.heap H locs (J, L, I, P, E, N) (sgX g ++ dy) := hW
        exact end_i C hr hlocks () hW trivial dX3_covered_77
      · have c1 : m5.toInt < 24 := tnle kp24 rfl c1
        refine lv_iload hx hb dX3_covered_15 (lv_at hl 1 rfl) ?_
        refine lv_if_eq (tgt := 73) hx hb dX3_covered_17 (by decide) (fun c3 => ?_) (fun c3 => ?_)
        · have c3 : m4.toInt = 0 := teq rfl kp0 c3
          refine lv_lload_n hx hb dX3_covered_73 rfl (lv_at hl 2 rfl) ?_
          refine ci_ C hW (runS (As := [.long m2]) (rest := []) (T := ((J, L, I, P, E, N), sgX g ++ dy)) C hW (c_J13_bitCount_95d88 l g J L I P E N dy H.size m2 ) mi_J13_bitCount_95d88 tw_917 ⟨rfl, rfl, Nat.le_of_ble_eq_true rfl, Nat.le_of_ble_eq_true rfl⟩ rfl hl.1 rfl (Nat.le_of_ble_eq_true rfl) dX3_covered_74 ⟨Nat.le_of_ble_eq_true rfl, Nat.le_of_ble_eq_true rfl⟩) (fun r4 u4 H locs hp4 hW => ?_)
          have hW : WB g A s.heap H locs (J, L, I, P, E, N) (sgX g ++ dy) := hW
          exact end_i C hr hlocks () hW trivial dX3_covered_77
        · have c3 : ¬ m4.toInt = 0 := tne rfl kp0 c3
          refine lv_iload hx hb dX3_covered_20 (lv_at hl 1 rfl) ?_
          refine lv_iload hx hb dX3_covered_22 (lv_at hl 1 rfl) ?_
          refine lv_ineg hx hb dX3_covered_24 ?_
          refine lv_topi (fun x5 (e5 : x5 = -m4) => ?_)
          try have t5 : x5.toInt = -m4.toInt := tneg e5 rfl (by omega)
          refine lv_iand hx hb dX3_covered_25 ?_
          refine lv_topi (fun x6 (e6 : x6 = m4 &&& x5) => ?_)
          refine lv_iconst (v := 1) hx hb dX3_covered_26 (by decide) ?_
          refine lv_isub hx hb dX3_covered_27 ?_
          refine lv_topi (fun x7 (e7 : x7 = x6 - 1) => ?_)
          refine ci_ C hW (runS (As := [.int x7]) (rest := []) (T := ((J, L, I, P, E, N), sgX g ++ dy)) C hW (c_J6_bitCount_0f7a4 l g J L I P E N dy H.size x7 ) mi_J6_bitCount_0f7a4 tw_864 ⟨rfl, rfl, Nat.le_of_ble_eq_true rfl, Nat.le_of_ble_eq_true rfl⟩ rfl hl.1 rfl (Nat.le_of_ble_eq_true rfl) dX3_covered_28 ⟨Nat.le_of_ble_eq_true rfl, Nat.le_of_ble_eq_true rfl⟩) (fun r8 u8 H locs hp8 hW => ?_)
          have hW : WB g A s.heap H locs (J, L, I, P, E, N) (sgX g ++ dy) := hW
          refine lv_istore (lv' := [(6, .int r8), (5, .int m5), (4, .int m4), (2, .long m2), (0, .ref (g.2.2.1 4)), (1, .int a0)]) hx hb dX3_covered_31 hl (by decide) rfl (fun ls hl => ?_)
          refine lv_iload hx hb dX3_covered_33 (lv_at hl 0 rfl) ?_
          refine lv_if_lt (tgt := 58) hx hb dX3_covered_35 (by decide) (fun c9 => ?_) (fun c9 => ?_)
          · have c9 : r8.toInt < 0 := tlt rfl kp0 c9
            refine lv_iload hx hb dX3_covered_58 (lv_at hl 2 rfl) ?_
            refine lv_iload hx hb dX3_covered_60 (lv_at hl 2 rfl) ?_
            refine lv_iconst (v := 1) hx hb dX3_covered_62 (by decide) ?_
            refine lv_isub hx hb dX3_covered_63 ?_
            refine lv_topi (fun x10 (e10 : x10 = m4 - 1) => ?_)
            refine lv_iand hx hb dX3_covered_64 ?_
            refine lv_topi (fun x11 (e11 : x11 = m4 &&& x10) => ?_)
            refine lv_istore (lv' := [(4, .int x11), (6, .int r8), (5, .int m5), (2, .long m2), (0, .ref (g.2.2.1 4)), (1, .int a0)]) hx hb dX3_covered_65 hl (by decide) rfl (fun ls hl => ?_)
            obtain ⟨x12, e12⟩ : ∃ y : Int32, y = m5 + 1 := ⟨_, rfl⟩
            refine lv_iinc (v := x12) (lv' := [(5, .int x12), (4, .int x11), (6, .int r8), (2, .long m2), (0, .ref (g.2.2.1 4)), (1, .int a0)]) hx hb dX3_covered_67 hl (k := 2) rfl (by rw [e12]; rfl) (by decide) rfl (fun ls hl => ?_)
            try have t12 : x12.toInt = m5.toInt + 1 := tadd e12 rfl kp1 (by omega)
            refine lv_goto (tgt := 8) hx hb dX3_covered_70 (by decide) ?_
            refine ih m2 x11 x12 H locs ls ?_ ?_ hW (lv_sub hl [0, 1, 3, 4, 5] rfl)
            · show (24 - x12.toInt).toNat < n
              omega
            · show 0 ≤ x12.toInt
              first | omega | exact hi | assumption
          · have c9 : 0 ≤ r8.toInt := tnlt rfl kp0 c9
            refine lv_iload hx hb dX3_covered_38 (lv_at hl 0 rfl) ?_
            refine lv_aload_n hx hb dX3_covered_40 rfl (lv_at hl 4 rfl) ?_
            refine rg_4_8 C hW (mx_ rfl) tw_248 dX3_covered_41 ?_
            refine rl_47 C hW (mx_ rfl) dX3_covered_44 ?_
            refine lv_icmp_ge (tgt := 58) hx hb dX3_covered_45 (by decide) (fun c13 => ?_) (fun c13 => ?_)
            · have c13 : 24 ≤ r8.toInt := tle kp24 rfl c13
              refine lv_iload hx hb dX3_covered_58 (lv_at hl 2 rfl) ?_
              refine lv_iload hx hb dX3_covered_60 (lv_at hl 2 rfl) ?_
              refine lv_iconst (v := 1) hx hb dX3_covered_62 (by decide) ?_
              refine lv_isub hx hb dX3_covered_63 ?_
              refine lv_topi (fun x14 (e14 : x14 = m4 - 1) => ?_)
              refine lv_iand hx hb dX3_covered_64 ?_
              refine lv_topi (fun x15 (e15 : x15 = m4 &&& x14) => ?_)
              refine lv_istore (lv' := [(4, .int x15), (6, .int r8), (5, .int m5), (2, .long m2), (0, .ref (g.2.2.1 4)), (1, .int a0)]) hx hb dX3_covered_65 hl (by decide) rfl (fun ls hl => ?_)
              obtain ⟨x16, e16⟩ : ∃ y : Int32, y = m5 + 1 := ⟨_, rfl⟩
              refine lv_iinc (v := x16) (lv' := [(5, .int x16), (4, .int x15), (6, .int r8), (2, .long m2), (0, .ref (g.2.2.1 4)), (1, .int a0)]) hx hb dX3_covered_67 hl (k := 2) rfl (by rw [e16]; rfl) (by decide) rfl (fun ls hl => ?_)
              try have t16 : x16.toInt = m5.toInt + 1 := tadd e16 rfl kp1 (by omega)
              refine lv_goto (tgt := 8) hx hb dX3_covered_70 (by decide) ?_
              refine ih m2 x15 x16 H locs ls ?_ ?_ hW (lv_sub hl [0, 1, 3, 4, 5] rfl)
              · show (24 - x16.toInt).toNat < n
                omega
              · show 0 ≤ x16.toInt
                first | omega | exact hi | assumption
            · have c13 : r8.toInt < 24 := tnle kp24 rfl c13
              refine lv_lload_n hx hb dX3_covered_48 rfl (lv_at hl 3 rfl) ?_
              refine lv_aload_n hx hb dX3_covered_49 rfl (lv_at hl 4 rfl) ?_
              refine rg_4_8 C hW (mx_ rfl) tw_248 dX3_covered_50 ?_
              refine lv_iload hx hb dX3_covered_53 (lv_at hl 0 rfl) ?_
              have hin : vp_in r8 24 := tin rfl (by omega)
              refine ra_47 C hW (mx_ rfl) hin dX3_covered_55 ?_
              refine lv_topl (fun z17 ez17 => ?_)
              refine lv_lor hx hb dX3_covered_56 ?_
              refine lv_topl (fun z18 ez18 => ?_)
              refine lv_lstore_n (lv' := [(2, .long z18), (6, .int r8), (5, .int m5), (4, .int m4), (0, .ref (g.2.2.1 4)), (1, .int a0)]) hx hb dX3_covered_57 rfl hl (by decide) rfl (fun ls hl => ?_)
              refine lv_iload hx hb dX3_covered_58 (lv_at hl 3 rfl) ?_
              refine lv_iload hx hb dX3_covered_60 (lv_at hl 3 rfl) ?_
              refine lv_iconst (v := 1) hx hb dX3_covered_62 (by decide) ?_
              refine lv_isub hx hb dX3_covered_63 ?_
              refine lv_topi (fun x19 (e19 : x19 = m4 - 1) => ?_)
              refine lv_iand hx hb dX3_covered_64 ?_
              refine lv_topi (fun x20 (e20 : x20 = m4 &&& x19) => ?_)
              refine lv_istore (lv' := [(4, .int x20), (2, .long z18), (6, .int r8), (5, .int m5), (0, .ref (g.2.2.1 4)), (1, .int a0)]) hx hb dX3_covered_65 hl (by decide) rfl (fun ls hl => ?_)
              obtain ⟨x21, e21⟩ : ∃ y : Int32, y = m5 + 1 := ⟨_, rfl⟩
              refine lv_iinc (v := x21) (lv' := [(5, .int x21), (4, .int x20), (2, .long z18), (6, .int r8), (0, .ref (g.2.2.1 4)), (1, .int a0)]) hx hb dX3_covered_67 hl (k := 3) rfl (by rw [e21]; rfl) (by decide) rfl (fun ls hl => ?_)
              try have t21 : x21.toInt = m5.toInt + 1 := tadd e21 rfl kp1 (by omega)
              refine lv_goto (tgt := 8) hx hb dX3_covered_70 (by decide) ?_
              refine ih z18 x20 x21 H locs ls ?_ ?_ hW (lv_sub hl [0, 1, 2, 4, 5] rfl)
              · show (24 - x21.toInt).toNat < n
                omega
              · show 0 ≤ x21.toInt
                first | omega | exact hi | assumption
  -- into the loop
  refine loop8 ((24 - (0 : Int32).toInt).toNat + 1) (0 : Int64) a0 0 H locs ls ?_ ?_ hW (lv_sub hl [0, 1, 2, 3, 4] rfl)
  · exact Nat.lt_succ_self _
  · show 0 ≤ (0 : Int32).toInt
    try rw [kp0]
    first | omega | exact hi | assumption

set_option maxHeartbeats 4000000 in
set_option maxRecDepth 100000 in
theorem c_X3_explain (l : Launch) (g : gG) (J : Nat → Nat → Int32) (L : Nat → Nat → Int64) (I : Nat → Nat → Nat → Int32) (P : Nat → Nat → Nat → Option Nat) (E : Nat → Option Nat) (N : Nat → Nat) (dy : List (Nat × Nat)) (sz : Nat) (a0 : Int32) (hwf : WXF g J P E N dy) : Met l yX3_explain (WS yX3_explain cX3_explain 9 (some .int)) (RM (6) 0 0) (PC g [.ref (g.2.2.1 4), .int a0] ((J, L, I, P, E, N), sgX g ++ dy) sz) (va_Qi (fun (r : Int32) (u : Unit) => True) (fun u t => at_ g (FR g ((J, L, I, P, E, N), sgX g ++ dy) sz) ((J, L, I, P, E, N), sgX g ++ dy) t) (FR g ((J, L, I, P, E, N), sgX g ++ dy) sz)) 0 0 (FR g ((J, L, I, P, E, N), sgX g ++ dy) sz) := by
  refine ent (by decide +kernel) (Nat.le_of_ble_eq_true rfl) ?_
  intro p e s m below meth c ls hsz C hW hr hlocks hname hl
  generalize FR g ((J, L, I, P, E, N), sgX g ++ dy) sz = A at C hW ⊢
  have hx := C.1.1
  have hb := C.1.2.1
  have hts := C.1.2.2.2.2
  have hl : lv_has ls 9 [(0, .ref (g.2.2.1 4)), (1, .int a0)] := hl
  obtain ⟨H, hH⟩ : ∃ H : Heap, H = s.heap := ⟨_, rfl⟩
  obtain ⟨locs, hlocs⟩ : ∃ q : List Loc, q = [] := ⟨_, rfl⟩
  have hW : WB g A s.heap H locs (J, L, I, P, E, N) (sgX g ++ dy) := by rw [hH, hlocs]; exact hW
  obtain ⟨h20a, h20b, -⟩ := hwf.1.1
  obtain ⟨h22a, h22b, -⟩ := hwf.1.2.2.1
  obtain ⟨h23a, h23b, -⟩ := hwf.1.2.2.2
  refine start_ hH hlocs ?_
  refine lv_aload_n hx hb dX3_explain_0 rfl (lv_at hl 0 rfl) ?_
  refine ci_ C hW (runV (x := (g.2.2.1 4)) (As := []) (rest := []) (T := ((J, L, I, P, E, N), sgX g ++ dy)) C hW (c_X3_breakable l g J L I P E N dy H.size  hwf) mi_X3_breakable tw_860 (recv_ (T := ((J, L, I, P, E, N), sgX g ++ dy)) C hW (mx_ rfl) rfl rfl) ⟨rfl, rfl, Nat.le_of_ble_eq_true rfl, Nat.le_of_ble_eq_true rfl⟩ rfl hl.1 rfl (Nat.le_of_ble_eq_true rfl) dX3_explain_1 ⟨Nat.le_of_ble_eq_true rfl, Nat.le_of_ble_eq_true rfl⟩) (fun r1 u1 H locs hp1 hW => ?_)
  have hW : WB g A s.heap H locs (J, L, I, P, E, N) (sgX g ++ dy) := hW
  refine lv_istore_n (lv' := [(2, .int r1), (0, .ref (g.2.2.1 4)), (1, .int a0)]) hx hb dX3_explain_4 rfl hl (by decide) rfl (fun ls hl => ?_)
  refine lv_bipush (v := 20) hx hb dX3_explain_5 (by decide) ?_
  refine lv_istore_n (lv' := [(3, .int 20), (2, .int r1), (0, .ref (g.2.2.1 4)), (1, .int a0)]) hx hb dX3_explain_7 rfl hl (by decide) rfl (fun ls hl => ?_)
  refine lv_iconst (v := 0) hx hb dX3_explain_8 (by decide) ?_
  refine lv_istore (lv' := [(4, .int 0), (3, .int 20), (2, .int r1), (0, .ref (g.2.2.1 4)), (1, .int a0)]) hx hb dX3_explain_9 hl (by decide) rfl (fun ls hl => ?_)
  refine lv_bipush (v := (-9)) hx hb dX3_explain_11 (by decide) ?_
  refine lv_istore (lv' := [(5, .int (-9)), (4, .int 0), (3, .int 20), (2, .int r1), (0, .ref (g.2.2.1 4)), (1, .int a0)]) hx hb dX3_explain_13 hl (by decide) rfl (fun ls hl => ?_)
  refine lv_iconst (v := 0) hx hb dX3_explain_15 (by decide) ?_
  refine lv_istore (lv' := [(6, .int 0), (5, .int (-9)), (4, .int 0), (3, .int 20), (2, .int r1), (0, .ref (g.2.2.1 4)), (1, .int a0)]) hx hb dX3_explain_16 hl (by decide) rfl (fun ls hl => ?_)
  refine lv_iconst (v := 0) hx hb dX3_explain_18 (by decide) ?_
  refine lv_istore (lv' := [(7, .int 0), (6, .int 0), (5, .int (-9)), (4, .int 0), (3, .int 20), (2, .int r1), (0, .ref (g.2.2.1 4)), (1, .int a0)]) hx hb dX3_explain_19 hl (by decide) rfl (fun ls hl => ?_)
  have loop21 : ∀ (n : Nat) (m3 : Int32) (m4 : Int32) (m5 : Int32) (m6 : Int32) (m7 : Int32) (H : Heap) (locs : List Loc) (ls : Array Slot), (2048 - m7.toInt).toNat < n → 0 ≤ m7.toInt → WB g A s.heap H locs (J, L, I, P, E, N) (sgX g ++ dy) → lv_has ls 9 [(7, .int m7), (6, .int m6), (5, .int m5), (4, .int m4), (3, .int m3), (2, .int r1), (0, .ref (g.2.2.1 4)), (1, .int a0)] → W p l e (RM (6) 0 0) s m ([.ref (g.2.2.1 4), .int a0] : List Value).toArray below meth c H locs 0 0 (MQ below (va_Qi (fun (r : Int32) (u : Unit) => True) (fun u t => at_ g A ((J, L, I, P, E, N), sgX g ++ dy) t) A) ([.ref (g.2.2.1 4), .int a0] : List Value).toArray s 0 0 A) (F0 m 21 ls []) := by
    intro n
    induction n with
    | zero => intro m3 m4 m5 m6 m7 H locs ls hmeas; exact absurd hmeas (Nat.not_lt_zero _)
    | succ n ih =>
      intro m3 m4 m5 m6 m7 H locs ls hmeas hi hW hl
      refine lv_iload hx hb dX3_explain_21 (lv_at hl 0 rfl) ?_
      refine lv_sipush (v := 2048) hx hb dX3_explain_23 (by decide) ?_
      refine lv_icmp_ge (tgt := 108) hx hb dX3_explain_26 (by decide) (fun c2 => ?_) (fun c2 => ?_)
      · have c2 : 2048 ≤ m7.toInt := tle kp2048 rfl c2
        refine lv_iload hx hb dX3_explain_108 (lv_at hl 2 rfl) ?_
        refine lv_bipush (v := (-9)) hx hb dX3_explain_110 (by decide) ?_
        refine lv_icmp_ne (tgt := 118) hx hb dX3_explain_112 (by decide) (fun c3 => ?_) (fun c3 => ?_)
        · have c3 : ¬ m5.toInt = (-9) := tne rfl kn9 c3
          refine lv_iload_n hx hb dX3_explain_118 rfl (lv_at hl 7 rfl) ?_
          refine lv_if_ne (tgt := 126) hx hb dX3_explain_119 (by decide) (fun c4 => ?_) (fun c4 => ?_)
          · have c4 : ¬ a0.toInt = 0 := tne rfl kp0 c4
            refine lv_iload_n hx hb dX3_explain_126 rfl (lv_at hl 7 rfl) ?_
            refine lv_iconst (v := 1) hx hb dX3_explain_127 (by decide) ?_
            refine lv_icmp_ne (tgt := 136) hx hb dX3_explain_128 (by decide) (fun c5 => ?_) (fun c5 => ?_)
            · have c5 : ¬ a0.toInt = 1 := tne rfl kp1 c5
              refine lv_iload hx hb dX3_explain_136 (lv_at hl 2 rfl) ?_
              exact end_i C hr hlocks () hW trivial dX3_explain_138
            · have c5 : a0.toInt = 1 := teq rfl kp1 c5
              refine lv_iload hx hb dX3_explain_131 (lv_at hl 3 rfl) ?_
              refine lv_goto (tgt := 138) hx hb dX3_explain_133 (by decide) ?_
              exact end_i C hr hlocks () hW trivial dX3_explain_138
          · have c4 : a0.toInt = 0 := teq rfl kp0 c4
            refine lv_iload_n hx hb dX3_explain_122 rfl (lv_at hl 4 rfl) ?_
            refine lv_goto (tgt := 138) hx hb dX3_explain_123 (by decide) ?_
            exact end_i C hr hlocks () hW trivial dX3_explain_138
        · have c3 : m5.toInt = (-9) := teq rfl kn9 c3
          refine lv_bipush (v := (-9)) hx hb dX3_explain_115 (by decide) ?_
          exact end_i C hr hlocks () hW trivial dX3_explain_117
      · have c2 : m7.toInt < 2048 := tnle kp2048 rfl c2
        refine lv_iload hx hb dX3_explain_29 (lv_at hl 1 rfl) ?_
        refine ci_ C hW (runS (As := [.int m6]) (rest := []) (T := ((J, L, I, P, E, N), sgX g ++ dy)) C hW (c_J6_bitCount_0f7a4 l g J L I P E N dy H.size m6 ) mi_J6_bitCount_0f7a4 tw_864 ⟨rfl, rfl, Nat.le_of_ble_eq_true rfl, Nat.le_of_ble_eq_true rfl⟩ rfl hl.1 rfl (Nat.le_of_ble_eq_true rfl) dX3_explain_31 ⟨Nat.le_of_ble_eq_true rfl, Nat.le_of_ble_eq_true rfl⟩) (fun r6 u6 H locs hp6 hW => ?_)
        have hW : WB g A s.heap H locs (J, L, I, P, E, N) (sgX g ++ dy) := hW
        refine lv_istore (lv' := [(8, .int r6), (7, .int m7), (6, .int m6), (5, .int m5), (4, .int m4), (3, .int m3), (2, .int r1), (0, .ref (g.2.2.1 4)), (1, .int a0)]) hx hb dX3_explain_34 hl (by decide) rfl (fun ls hl => ?_)
        refine lv_iload hx hb dX3_explain_36 (lv_at hl 0 rfl) ?_
        refine lv_iload_n hx hb dX3_explain_38 rfl (lv_at hl 5 rfl) ?_
        refine lv_icmp_gt (tgt := 85) hx hb dX3_explain_39 (by decide) (fun c7 => ?_) (fun c7 => ?_)
        · have c7 : m3.toInt < r6.toInt := tlt rfl rfl c7
          refine lv_iload hx hb dX3_explain_85 (lv_at hl 2 rfl) ?_
          refine lv_iload_n hx hb dX3_explain_87 rfl (lv_at hl 6 rfl) ?_
          refine lv_icmp_ne (tgt := 94) hx hb dX3_explain_88 (by decide) (fun c8 => ?_) (fun c8 => ?_)
          · have c8 : ¬ m6.toInt = r1.toInt := tne rfl rfl c8
            refine lv_iload hx hb dX3_explain_94 (lv_at hl 2 rfl) ?_
            refine lv_iload_n hx hb dX3_explain_96 rfl (lv_at hl 6 rfl) ?_
            refine lv_isub hx hb dX3_explain_97 ?_
            refine lv_topi (fun x9 (e9 : x9 = m6 - r1) => ?_)
            refine lv_iload_n hx hb dX3_explain_98 rfl (lv_at hl 6 rfl) ?_
            refine lv_iand hx hb dX3_explain_99 ?_
            refine lv_topi (fun x10 (e10 : x10 = x9 &&& r1) => ?_)
            refine lv_istore (lv' := [(6, .int x10), (8, .int r6), (7, .int m7), (5, .int m5), (4, .int m4), (3, .int m3), (2, .int r1), (0, .ref (g.2.2.1 4)), (1, .int a0)]) hx hb dX3_explain_100 hl (by decide) rfl (fun ls hl => ?_)
            obtain ⟨x11, e11⟩ : ∃ y : Int32, y = m7 + 1 := ⟨_, rfl⟩
            refine lv_iinc (v := x11) (lv' := [(7, .int x11), (6, .int x10), (8, .int r6), (5, .int m5), (4, .int m4), (3, .int m3), (2, .int r1), (0, .ref (g.2.2.1 4)), (1, .int a0)]) hx hb dX3_explain_102 hl (k := 2) rfl (by rw [e11]; rfl) (by decide) rfl (fun ls hl => ?_)
            try have t11 : x11.toInt = m7.toInt + 1 := tadd e11 rfl kp1 (by omega)
            refine lv_goto (tgt := 21) hx hb dX3_explain_105 (by decide) ?_
            refine ih m3 m4 m5 x10 x11 H locs ls ?_ ?_ hW (lv_sub hl [0, 1, 3, 4, 5, 6, 7, 8] rfl)
            · show (2048 - x11.toInt).toNat < n
              omega
            · show 0 ≤ x11.toInt
              first | omega | exact hi | assumption
          · have c8 : m6.toInt = r1.toInt := teq rfl rfl c8
            refine lv_goto (tgt := 108) hx hb dX3_explain_91 (by decide) ?_
            refine lv_iload hx hb dX3_explain_108 (lv_at hl 3 rfl) ?_
            refine lv_bipush (v := (-9)) hx hb dX3_explain_110 (by decide) ?_
            refine lv_icmp_ne (tgt := 118) hx hb dX3_explain_112 (by decide) (fun c12 => ?_) (fun c12 => ?_)
            · have c12 : ¬ m5.toInt = (-9) := tne rfl kn9 c12
              refine lv_iload_n hx hb dX3_explain_118 rfl (lv_at hl 8 rfl) ?_
              refine lv_if_ne (tgt := 126) hx hb dX3_explain_119 (by decide) (fun c13 => ?_) (fun c13 => ?_)
              · have c13 : ¬ a0.toInt = 0 := tne rfl kp0 c13
                refine lv_iload_n hx hb dX3_explain_126 rfl (lv_at hl 8 rfl) ?_
                refine lv_iconst (v := 1) hx hb dX3_explain_127 (by decide) ?_
                refine lv_icmp_ne (tgt := 136) hx hb dX3_explain_128 (by decide) (fun c14 => ?_) (fun c14 => ?_)
                · have c14 : ¬ a0.toInt = 1 := tne rfl kp1 c14
                  refine lv_iload hx hb dX3_explain_136 (lv_at hl 3 rfl) ?_
                  exact end_i C hr hlocks () hW trivial dX3_explain_138
                · have c14 : a0.toInt = 1 := teq rfl kp1 c14
                  refine lv_iload hx hb dX3_explain_131 (lv_at hl 4 rfl) ?_
                  refine lv_goto (tgt := 138) hx hb dX3_explain_133 (by decide) ?_
                  exact end_i C hr hlocks () hW trivial dX3_explain_138
              · have c13 : a0.toInt = 0 := teq rfl kp0 c13
                refine lv_iload_n hx hb dX3_explain_122 rfl (lv_at hl 5 rfl) ?_
                refine lv_goto (tgt := 138) hx hb dX3_explain_123 (by decide) ?_
                exact end_i C hr hlocks () hW trivial dX3_explain_138
            · have c12 : m5.toInt = (-9) := teq rfl kn9 c12
              refine lv_bipush (v := (-9)) hx hb dX3_explain_115 (by decide) ?_
              exact end_i C hr hlocks () hW trivial dX3_explain_117
        · have c7 : r6.toInt ≤ m3.toInt := tnlt rfl rfl c7
          refine lv_aload_n hx hb dX3_explain_42 rfl (lv_at hl 7 rfl) ?_
          refine lv_iload hx hb dX3_explain_43 (lv_at hl 2 rfl) ?_
          refine ci_ C hW (runV (x := (g.2.2.1 4)) (As := [.int m6]) (rest := []) (T := ((J, L, I, P, E, N), sgX g ++ dy)) C hW (c_X3_hitsAllComplaints l g J L I P E N dy H.size m6 hwf) mi_X3_hitsAllComplaints tw_870 (recv_ (T := ((J, L, I, P, E, N), sgX g ++ dy)) C hW (mx_ rfl) rfl rfl) ⟨rfl, rfl, Nat.le_of_ble_eq_true rfl, Nat.le_of_ble_eq_true rfl⟩ rfl hl.1 rfl (Nat.le_of_ble_eq_true rfl) dX3_explain_45 ⟨Nat.le_of_ble_eq_true rfl, Nat.le_of_ble_eq_true rfl⟩) (fun r15 u15 H locs hp15 hW => ?_)
          have hc15 : ((r15.toInt = 1) ∨ (r15.toInt = 0)) := hp15
          clear hp15
          have hW : WB g A s.heap H locs (J, L, I, P, E, N) (sgX g ++ dy) := hW
          refine lv_if_eq (tgt := 85) hx hb dX3_explain_48 (by decide) (fun c16 => ?_) (fun c16 => ?_)
          · have c16 : r15.toInt = 0 := teq rfl kp0 c16
            refine lv_iload hx hb dX3_explain_85 (lv_at hl 2 rfl) ?_
            refine lv_iload_n hx hb dX3_explain_87 rfl (lv_at hl 6 rfl) ?_
            refine lv_icmp_ne (tgt := 94) hx hb dX3_explain_88 (by decide) (fun c17 => ?_) (fun c17 => ?_)
            · have c17 : ¬ m6.toInt = r1.toInt := tne rfl rfl c17
              refine lv_iload hx hb dX3_explain_94 (lv_at hl 2 rfl) ?_
              refine lv_iload_n hx hb dX3_explain_96 rfl (lv_at hl 6 rfl) ?_
              refine lv_isub hx hb dX3_explain_97 ?_
              refine lv_topi (fun x18 (e18 : x18 = m6 - r1) => ?_)
              refine lv_iload_n hx hb dX3_explain_98 rfl (lv_at hl 6 rfl) ?_
              refine lv_iand hx hb dX3_explain_99 ?_
              refine lv_topi (fun x19 (e19 : x19 = x18 &&& r1) => ?_)
              refine lv_istore (lv' := [(6, .int x19), (8, .int r6), (7, .int m7), (5, .int m5), (4, .int m4), (3, .int m3), (2, .int r1), (0, .ref (g.2.2.1 4)), (1, .int a0)]) hx hb dX3_explain_100 hl (by decide) rfl (fun ls hl => ?_)
              obtain ⟨x20, e20⟩ : ∃ y : Int32, y = m7 + 1 := ⟨_, rfl⟩
              refine lv_iinc (v := x20) (lv' := [(7, .int x20), (6, .int x19), (8, .int r6), (5, .int m5), (4, .int m4), (3, .int m3), (2, .int r1), (0, .ref (g.2.2.1 4)), (1, .int a0)]) hx hb dX3_explain_102 hl (k := 2) rfl (by rw [e20]; rfl) (by decide) rfl (fun ls hl => ?_)
              try have t20 : x20.toInt = m7.toInt + 1 := tadd e20 rfl kp1 (by omega)
              refine lv_goto (tgt := 21) hx hb dX3_explain_105 (by decide) ?_
              refine ih m3 m4 m5 x19 x20 H locs ls ?_ ?_ hW (lv_sub hl [0, 1, 3, 4, 5, 6, 7, 8] rfl)
              · show (2048 - x20.toInt).toNat < n
                omega
              · show 0 ≤ x20.toInt
                first | omega | exact hi | assumption
            · have c17 : m6.toInt = r1.toInt := teq rfl rfl c17
              refine lv_goto (tgt := 108) hx hb dX3_explain_91 (by decide) ?_
              refine lv_iload hx hb dX3_explain_108 (lv_at hl 3 rfl) ?_
              refine lv_bipush (v := (-9)) hx hb dX3_explain_110 (by decide) ?_
              refine lv_icmp_ne (tgt := 118) hx hb dX3_explain_112 (by decide) (fun c21 => ?_) (fun c21 => ?_)
              · have c21 : ¬ m5.toInt = (-9) := tne rfl kn9 c21
                refine lv_iload_n hx hb dX3_explain_118 rfl (lv_at hl 8 rfl) ?_
                refine lv_if_ne (tgt := 126) hx hb dX3_explain_119 (by decide) (fun c22 => ?_) (fun c22 => ?_)
                · have c22 : ¬ a0.toInt = 0 := tne rfl kp0 c22
                  refine lv_iload_n hx hb dX3_explain_126 rfl (lv_at hl 8 rfl) ?_
                  refine lv_iconst (v := 1) hx hb dX3_explain_127 (by decide) ?_
                  refine lv_icmp_ne (tgt := 136) hx hb dX3_explain_128 (by decide) (fun c23 => ?_) (fun c23 => ?_)
                  · have c23 : ¬ a0.toInt = 1 := tne rfl kp1 c23
                    refine lv_iload hx hb dX3_explain_136 (lv_at hl 3 rfl) ?_
                    exact end_i C hr hlocks () hW trivial dX3_explain_138
                  · have c23 : a0.toInt = 1 := teq rfl kp1 c23
                    refine lv_iload hx hb dX3_explain_131 (lv_at hl 4 rfl) ?_
                    refine lv_goto (tgt := 138) hx hb dX3_explain_133 (by decide) ?_
                    exact end_i C hr hlocks () hW trivial dX3_explain_138
                · have c22 : a0.toInt = 0 := teq rfl kp0 c22
                  refine lv_iload_n hx hb dX3_explain_122 rfl (lv_at hl 5 rfl) ?_
                  refine lv_goto (tgt := 138) hx hb dX3_explain_123 (by decide) ?_
                  exact end_i C hr hlocks () hW trivial dX3_explain_138
              · have c21 : m5.toInt = (-9) := teq rfl kn9 c21
                refine lv_bipush (v := (-9)) hx hb dX3_explain_115 (by decide) ?_
                exact end_i C hr hlocks () hW trivial dX3_explain_117
          · have c16 : ¬ r15.toInt = 0 := tne rfl kp0 c16
            refine lv_iload hx hb dX3_explain_51 (lv_at hl 0 rfl) ?_
            refine lv_iload_n hx hb dX3_explain_53 rfl (lv_at hl 5 rfl) ?_
            refine lv_icmp_ge (tgt := 61) hx hb dX3_explain_54 (by decide) (fun c24 => ?_) (fun c24 => ?_)
            · have c24 : m3.toInt ≤ r6.toInt := tle rfl rfl c24
              refine lv_iload hx hb dX3_explain_61 (lv_at hl 4 rfl) ?_
              refine lv_iconst (v := 1) hx hb dX3_explain_63 (by decide) ?_
              refine lv_iadd hx hb dX3_explain_64 ?_
              refine lv_topi (fun x25 (e25 : x25 = m4 + 1) => ?_)
              refine lv_istore (lv' := [(4, .int x25), (8, .int r6), (7, .int m7), (6, .int m6), (5, .int m5), (3, .int m3), (2, .int r1), (0, .ref (g.2.2.1 4)), (1, .int a0)]) hx hb dX3_explain_65 hl (by decide) rfl (fun ls hl => ?_)
              refine lv_iload hx hb dX3_explain_67 (lv_at hl 1 rfl) ?_
              refine lv_iload_n hx hb dX3_explain_69 rfl (lv_at hl 5 rfl) ?_
              refine lv_icmp_ge (tgt := 78) hx hb dX3_explain_70 (by decide) (fun c26 => ?_) (fun c26 => ?_)
              · have c26 : m3.toInt ≤ r6.toInt := tle rfl rfl c26
                refine lv_iload hx hb dX3_explain_78 (lv_at hl 4 rfl) ?_
                refine lv_istore (lv' := [(5, .int m5), (4, .int x25), (8, .int r6), (7, .int m7), (6, .int m6), (3, .int m3), (2, .int r1), (0, .ref (g.2.2.1 4)), (1, .int a0)]) hx hb dX3_explain_80 hl (by decide) rfl (fun ls hl => ?_)
                refine lv_iload hx hb dX3_explain_82 (lv_at hl 2 rfl) ?_
                refine lv_istore_n (lv' := [(3, .int r6), (5, .int m5), (4, .int x25), (8, .int r6), (7, .int m7), (6, .int m6), (2, .int r1), (0, .ref (g.2.2.1 4)), (1, .int a0)]) hx hb dX3_explain_84 rfl hl (by decide) rfl (fun ls hl => ?_)
                refine lv_iload hx hb dX3_explain_85 (lv_at hl 5 rfl) ?_
                refine lv_iload_n hx hb dX3_explain_87 rfl (lv_at hl 6 rfl) ?_
                refine lv_icmp_ne (tgt := 94) hx hb dX3_explain_88 (by decide) (fun c27 => ?_) (fun c27 => ?_)
                · have c27 : ¬ m6.toInt = r1.toInt := tne rfl rfl c27
                  refine lv_iload hx hb dX3_explain_94 (lv_at hl 5 rfl) ?_
                  refine lv_iload_n hx hb dX3_explain_96 rfl (lv_at hl 6 rfl) ?_
                  refine lv_isub hx hb dX3_explain_97 ?_
                  refine lv_topi (fun x28 (e28 : x28 = m6 - r1) => ?_)
                  refine lv_iload_n hx hb dX3_explain_98 rfl (lv_at hl 6 rfl) ?_
                  refine lv_iand hx hb dX3_explain_99 ?_
                  refine lv_topi (fun x29 (e29 : x29 = x28 &&& r1) => ?_)
                  refine lv_istore (lv' := [(6, .int x29), (3, .int r6), (5, .int m5), (4, .int x25), (8, .int r6), (7, .int m7), (2, .int r1), (0, .ref (g.2.2.1 4)), (1, .int a0)]) hx hb dX3_explain_100 hl (by decide) rfl (fun ls hl => ?_)
                  obtain ⟨x30, e30⟩ : ∃ y : Int32, y = m7 + 1 := ⟨_, rfl⟩
                  refine lv_iinc (v := x30) (lv' := [(7, .int x30), (6, .int x29), (3, .int r6), (5, .int m5), (4, .int x25), (8, .int r6), (2, .int r1), (0, .ref (g.2.2.1 4)), (1, .int a0)]) hx hb dX3_explain_102 hl (k := 5) rfl (by rw [e30]; rfl) (by decide) rfl (fun ls hl => ?_)
                  try have t30 : x30.toInt = m7.toInt + 1 := tadd e30 rfl kp1 (by omega)
                  refine lv_goto (tgt := 21) hx hb dX3_explain_105 (by decide) ?_
                  refine ih r6 x25 m5 x29 x30 H locs ls ?_ ?_ hW (lv_sub hl [0, 1, 3, 4, 2, 6, 7, 8] rfl)
                  · show (2048 - x30.toInt).toNat < n
                    omega
                  · show 0 ≤ x30.toInt
                    first | omega | exact hi | assumption
                · have c27 : m6.toInt = r1.toInt := teq rfl rfl c27
                  refine lv_goto (tgt := 108) hx hb dX3_explain_91 (by decide) ?_
                  refine lv_iload hx hb dX3_explain_108 (lv_at hl 1 rfl) ?_
                  refine lv_bipush (v := (-9)) hx hb dX3_explain_110 (by decide) ?_
                  refine lv_icmp_ne (tgt := 118) hx hb dX3_explain_112 (by decide) (fun c31 => ?_) (fun c31 => ?_)
                  · have c31 : ¬ m5.toInt = (-9) := tne rfl kn9 c31
                    refine lv_iload_n hx hb dX3_explain_118 rfl (lv_at hl 8 rfl) ?_
                    refine lv_if_ne (tgt := 126) hx hb dX3_explain_119 (by decide) (fun c32 => ?_) (fun c32 => ?_)
                    · have c32 : ¬ a0.toInt = 0 := tne rfl kp0 c32
                      refine lv_iload_n hx hb dX3_explain_126 rfl (lv_at hl 8 rfl) ?_
                      refine lv_iconst (v := 1) hx hb dX3_explain_127 (by decide) ?_
                      refine lv_icmp_ne (tgt := 136) hx hb dX3_explain_128 (by decide) (fun c33 => ?_) (fun c33 => ?_)
                      · have c33 : ¬ a0.toInt = 1 := tne rfl kp1 c33
                        refine lv_iload hx hb dX3_explain_136 (lv_at hl 1 rfl) ?_
                        exact end_i C hr hlocks () hW trivial dX3_explain_138
                      · have c33 : a0.toInt = 1 := teq rfl kp1 c33
                        refine lv_iload hx hb dX3_explain_131 (lv_at hl 2 rfl) ?_
                        refine lv_goto (tgt := 138) hx hb dX3_explain_133 (by decide) ?_
                        exact end_i C hr hlocks () hW trivial dX3_explain_138
                    · have c32 : a0.toInt = 0 := teq rfl kp0 c32
                      refine lv_iload_n hx hb dX3_explain_122 rfl (lv_at hl 0 rfl) ?_
                      refine lv_goto (tgt := 138) hx hb dX3_explain_123 (by decide) ?_
                      exact end_i C hr hlocks () hW trivial dX3_explain_138
                  · have c31 : m5.toInt = (-9) := teq rfl kn9 c31
                    refine lv_bipush (v := (-9)) hx hb dX3_explain_115 (by decide) ?_
                    exact end_i C hr hlocks () hW trivial dX3_explain_117
              · have c26 : r6.toInt < m3.toInt := tnle rfl rfl c26
                refine lv_iload hx hb dX3_explain_73 (lv_at hl 3 rfl) ?_
                refine lv_goto (tgt := 80) hx hb dX3_explain_75 (by decide) ?_
                refine lv_istore (lv' := [(5, .int m6), (4, .int x25), (8, .int r6), (7, .int m7), (6, .int m6), (3, .int m3), (2, .int r1), (0, .ref (g.2.2.1 4)), (1, .int a0)]) hx hb dX3_explain_80 hl (by decide) rfl (fun ls hl => ?_)
                refine lv_iload hx hb dX3_explain_82 (lv_at hl 2 rfl) ?_
                refine lv_istore_n (lv' := [(3, .int r6), (5, .int m6), (4, .int x25), (8, .int r6), (7, .int m7), (6, .int m6), (2, .int r1), (0, .ref (g.2.2.1 4)), (1, .int a0)]) hx hb dX3_explain_84 rfl hl (by decide) rfl (fun ls hl => ?_)
                refine lv_iload hx hb dX3_explain_85 (lv_at hl 5 rfl) ?_
                refine lv_iload_n hx hb dX3_explain_87 rfl (lv_at hl 6 rfl) ?_
                refine lv_icmp_ne (tgt := 94) hx hb dX3_explain_88 (by decide) (fun c34 => ?_) (fun c34 => ?_)
                · have c34 : ¬ m6.toInt = r1.toInt := tne rfl rfl c34
                  refine lv_iload hx hb dX3_explain_94 (lv_at hl 5 rfl) ?_
                  refine lv_iload_n hx hb dX3_explain_96 rfl (lv_at hl 6 rfl) ?_
                  refine lv_isub hx hb dX3_explain_97 ?_
                  refine lv_topi (fun x35 (e35 : x35 = m6 - r1) => ?_)
                  refine lv_iload_n hx hb dX3_explain_98 rfl (lv_at hl 6 rfl) ?_
                  refine lv_iand hx hb dX3_explain_99 ?_
                  refine lv_topi (fun x36 (e36 : x36 = x35 &&& r1) => ?_)
                  refine lv_istore (lv' := [(6, .int x36), (3, .int r6), (5, .int m6), (4, .int x25), (8, .int r6), (7, .int m7), (2, .int r1), (0, .ref (g.2.2.1 4)), (1, .int a0)]) hx hb dX3_explain_100 hl (by decide) rfl (fun ls hl => ?_)
                  obtain ⟨x37, e37⟩ : ∃ y : Int32, y = m7 + 1 := ⟨_, rfl⟩
                  refine lv_iinc (v := x37) (lv' := [(7, .int x37), (6, .int x36), (3, .int r6), (5, .int m6), (4, .int x25), (8, .int r6), (2, .int r1), (0, .ref (g.2.2.1 4)), (1, .int a0)]) hx hb dX3_explain_102 hl (k := 5) rfl (by rw [e37]; rfl) (by decide) rfl (fun ls hl => ?_)
                  try have t37 : x37.toInt = m7.toInt + 1 := tadd e37 rfl kp1 (by omega)
                  refine lv_goto (tgt := 21) hx hb dX3_explain_105 (by decide) ?_
                  refine ih r6 x25 m6 x36 x37 H locs ls ?_ ?_ hW (lv_sub hl [0, 1, 3, 4, 2, 6, 7, 8] rfl)
                  · show (2048 - x37.toInt).toNat < n
                    omega
                  · show 0 ≤ x37.toInt
                    first | omega | exact hi | assumption
                · have c34 : m6.toInt = r1.toInt := teq rfl rfl c34
                  refine lv_goto (tgt := 108) hx hb dX3_explain_91 (by decide) ?_
                  refine lv_iload hx hb dX3_explain_108 (lv_at hl 1 rfl) ?_
                  refine lv_bipush (v := (-9)) hx hb dX3_explain_110 (by decide) ?_
                  refine lv_icmp_ne (tgt := 118) hx hb dX3_explain_112 (by decide) (fun c38 => ?_) (fun c38 => ?_)
                  · have c38 : ¬ m6.toInt = (-9) := tne rfl kn9 c38
                    refine lv_iload_n hx hb dX3_explain_118 rfl (lv_at hl 8 rfl) ?_
                    refine lv_if_ne (tgt := 126) hx hb dX3_explain_119 (by decide) (fun c39 => ?_) (fun c39 => ?_)
                    · have c39 : ¬ a0.toInt = 0 := tne rfl kp0 c39
                      refine lv_iload_n hx hb dX3_explain_126 rfl (lv_at hl 8 rfl) ?_
                      refine lv_iconst (v := 1) hx hb dX3_explain_127 (by decide) ?_
                      refine lv_icmp_ne (tgt := 136) hx hb dX3_explain_128 (by decide) (fun c40 => ?_) (fun c40 => ?_)
                      · have c40 : ¬ a0.toInt = 1 := tne rfl kp1 c40
                        refine lv_iload hx hb dX3_explain_136 (lv_at hl 1 rfl) ?_
                        exact end_i C hr hlocks () hW trivial dX3_explain_138
                      · have c40 : a0.toInt = 1 := teq rfl kp1 c40
                        refine lv_iload hx hb dX3_explain_131 (lv_at hl 2 rfl) ?_
                        refine lv_goto (tgt := 138) hx hb dX3_explain_133 (by decide) ?_
                        exact end_i C hr hlocks () hW trivial dX3_explain_138
                    · have c39 : a0.toInt = 0 := teq rfl kp0 c39
                      refine lv_iload_n hx hb dX3_explain_122 rfl (lv_at hl 0 rfl) ?_
                      refine lv_goto (tgt := 138) hx hb dX3_explain_123 (by decide) ?_
                      exact end_i C hr hlocks () hW trivial dX3_explain_138
                  · have c38 : m6.toInt = (-9) := teq rfl kn9 c38
                    refine lv_bipush (v := (-9)) hx hb dX3_explain_115 (by decide) ?_
                    exact end_i C hr hlocks () hW trivial dX3_explain_117
            · have c24 : r6.toInt < m3.toInt := tnle rfl rfl c24
              refine lv_iconst (v := 1) hx hb dX3_explain_57 (by decide) ?_
              refine lv_goto (tgt := 65) hx hb dX3_explain_58 (by decide) ?_
              refine lv_istore (lv' := [(4, .int 1), (8, .int r6), (7, .int m7), (6, .int m6), (5, .int m5), (3, .int m3), (2, .int r1), (0, .ref (g.2.2.1 4)), (1, .int a0)]) hx hb dX3_explain_65 hl (by decide) rfl (fun ls hl => ?_)
              refine lv_iload hx hb dX3_explain_67 (lv_at hl 1 rfl) ?_
              refine lv_iload_n hx hb dX3_explain_69 rfl (lv_at hl 5 rfl) ?_
              refine lv_icmp_ge (tgt := 78) hx hb dX3_explain_70 (by decide) (fun c41 => ?_) (fun c41 => ?_)
              · have c41 : m3.toInt ≤ r6.toInt := tle rfl rfl c41
                refine lv_iload hx hb dX3_explain_78 (lv_at hl 4 rfl) ?_
                refine lv_istore (lv' := [(5, .int m5), (4, .int 1), (8, .int r6), (7, .int m7), (6, .int m6), (3, .int m3), (2, .int r1), (0, .ref (g.2.2.1 4)), (1, .int a0)]) hx hb dX3_explain_80 hl (by decide) rfl (fun ls hl => ?_)
                refine lv_iload hx hb dX3_explain_82 (lv_at hl 2 rfl) ?_
                refine lv_istore_n (lv' := [(3, .int r6), (5, .int m5), (4, .int 1), (8, .int r6), (7, .int m7), (6, .int m6), (2, .int r1), (0, .ref (g.2.2.1 4)), (1, .int a0)]) hx hb dX3_explain_84 rfl hl (by decide) rfl (fun ls hl => ?_)
                refine lv_iload hx hb dX3_explain_85 (lv_at hl 5 rfl) ?_
                refine lv_iload_n hx hb dX3_explain_87 rfl (lv_at hl 6 rfl) ?_
                refine lv_icmp_ne (tgt := 94) hx hb dX3_explain_88 (by decide) (fun c42 => ?_) (fun c42 => ?_)
                · have c42 : ¬ m6.toInt = r1.toInt := tne rfl rfl c42
                  refine lv_iload hx hb dX3_explain_94 (lv_at hl 5 rfl) ?_
                  refine lv_iload_n hx hb dX3_explain_96 rfl (lv_at hl 6 rfl) ?_
                  refine lv_isub hx hb dX3_explain_97 ?_
                  refine lv_topi (fun x43 (e43 : x43 = m6 - r1) => ?_)
                  refine lv_iload_n hx hb dX3_explain_98 rfl (lv_at hl 6 rfl) ?_
                  refine lv_iand hx hb dX3_explain_99 ?_
                  refine lv_topi (fun x44 (e44 : x44 = x43 &&& r1) => ?_)
                  refine lv_istore (lv' := [(6, .int x44), (3, .int r6), (5, .int m5), (4, .int 1), (8, .int r6), (7, .int m7), (2, .int r1), (0, .ref (g.2.2.1 4)), (1, .int a0)]) hx hb dX3_explain_100 hl (by decide) rfl (fun ls hl => ?_)
                  obtain ⟨x45, e45⟩ : ∃ y : Int32, y = m7 + 1 := ⟨_, rfl⟩
                  refine lv_iinc (v := x45) (lv' := [(7, .int x45), (6, .int x44), (3, .int r6), (5, .int m5), (4, .int 1), (8, .int r6), (2, .int r1), (0, .ref (g.2.2.1 4)), (1, .int a0)]) hx hb dX3_explain_102 hl (k := 5) rfl (by rw [e45]; rfl) (by decide) rfl (fun ls hl => ?_)
                  try have t45 : x45.toInt = m7.toInt + 1 := tadd e45 rfl kp1 (by omega)
                  refine lv_goto (tgt := 21) hx hb dX3_explain_105 (by decide) ?_
                  refine ih r6 1 m5 x44 x45 H locs ls ?_ ?_ hW (lv_sub hl [0, 1, 3, 4, 2, 6, 7, 8] rfl)
                  · show (2048 - x45.toInt).toNat < n
                    omega
                  · show 0 ≤ x45.toInt
                    first | omega | exact hi | assumption
                · have c42 : m6.toInt = r1.toInt := teq rfl rfl c42
                  refine lv_goto (tgt := 108) hx hb dX3_explain_91 (by decide) ?_
                  refine lv_iload hx hb dX3_explain_108 (lv_at hl 1 rfl) ?_
                  refine lv_bipush (v := (-9)) hx hb dX3_explain_110 (by decide) ?_
                  refine lv_icmp_ne (tgt := 118) hx hb dX3_explain_112 (by decide) (fun c46 => ?_) (fun c46 => ?_)
                  · have c46 : ¬ m5.toInt = (-9) := tne rfl kn9 c46
                    refine lv_iload_n hx hb dX3_explain_118 rfl (lv_at hl 8 rfl) ?_
                    refine lv_if_ne (tgt := 126) hx hb dX3_explain_119 (by decide) (fun c47 => ?_) (fun c47 => ?_)
                    · have c47 : ¬ a0.toInt = 0 := tne rfl kp0 c47
                      refine lv_iload_n hx hb dX3_explain_126 rfl (lv_at hl 8 rfl) ?_
                      refine lv_iconst (v := 1) hx hb dX3_explain_127 (by decide) ?_
                      refine lv_icmp_ne (tgt := 136) hx hb dX3_explain_128 (by decide) (fun c48 => ?_) (fun c48 => ?_)
                      · have c48 : ¬ a0.toInt = 1 := tne rfl kp1 c48
                        refine lv_iload hx hb dX3_explain_136 (lv_at hl 1 rfl) ?_
                        exact end_i C hr hlocks () hW trivial dX3_explain_138
                      · have c48 : a0.toInt = 1 := teq rfl kp1 c48
                        refine lv_iload hx hb dX3_explain_131 (lv_at hl 2 rfl) ?_
                        refine lv_goto (tgt := 138) hx hb dX3_explain_133 (by decide) ?_
                        exact end_i C hr hlocks () hW trivial dX3_explain_138
                    · have c47 : a0.toInt = 0 := teq rfl kp0 c47
                      refine lv_iload_n hx hb dX3_explain_122 rfl (lv_at hl 0 rfl) ?_
                      refine lv_goto (tgt := 138) hx hb dX3_explain_123 (by decide) ?_
                      exact end_i C hr hlocks () hW trivial dX3_explain_138
                  · have c46 : m5.toInt = (-9) := teq rfl kn9 c46
                    refine lv_bipush (v := (-9)) hx hb dX3_explain_115 (by decide) ?_
                    exact end_i C hr hlocks () hW trivial dX3_explain_117
              · have c41 : r6.toInt < m3.toInt := tnle rfl rfl c41
                refine lv_iload hx hb dX3_explain_73 (lv_at hl 3 rfl) ?_
                refine lv_goto (tgt := 80) hx hb dX3_explain_75 (by decide) ?_
                refine lv_istore (lv' := [(5, .int m6), (4, .int 1), (8, .int r6), (7, .int m7), (6, .int m6), (3, .int m3), (2, .int r1), (0, .ref (g.2.2.1 4)), (1, .int a0)]) hx hb dX3_explain_80 hl (by decide) rfl (fun ls hl => ?_)
                refine lv_iload hx hb dX3_explain_82 (lv_at hl 2 rfl) ?_
                refine lv_istore_n (lv' := [(3, .int r6), (5, .int m6), (4, .int 1), (8, .int r6), (7, .int m7), (6, .int m6), (2, .int r1), (0, .ref (g.2.2.1 4)), (1, .int a0)]) hx hb dX3_explain_84 rfl hl (by decide) rfl (fun ls hl => ?_)
                refine lv_iload hx hb dX3_explain_85 (lv_at hl 5 rfl) ?_
                refine lv_iload_n hx hb dX3_explain_87 rfl (lv_at hl 6 rfl) ?_
                refine lv_icmp_ne (tgt := 94) hx hb dX3_explain_88 (by decide) (fun c49 => ?_) (fun c49 => ?_)
                · have c49 : ¬ m6.toInt = r1.toInt := tne rfl rfl c49
                  refine lv_iload hx hb dX3_explain_94 (lv_at hl 5 rfl) ?_
                  refine lv_iload_n hx hb dX3_explain_96 rfl (lv_at hl 6 rfl) ?_
                  refine lv_isub hx hb dX3_explain_97 ?_
                  refine lv_topi (fun x50 (e50 : x50 = m6 - r1) => ?_)
                  refine lv_iload_n hx hb dX3_explain_98 rfl (lv_at hl 6 rfl) ?_
                  refine lv_iand hx hb dX3_explain_99 ?_
                  refine lv_topi (fun x51 (e51 : x51 = x50 &&& r1) => ?_)
                  refine lv_istore (lv' := [(6, .int x51), (3, .int r6), (5, .int m6), (4, .int 1), (8, .int r6), (7, .int m7), (2, .int r1), (0, .ref (g.2.2.1 4)), (1, .int a0)]) hx hb dX3_explain_100 hl (by decide) rfl (fun ls hl => ?_)
                  obtain ⟨x52, e52⟩ : ∃ y : Int32, y = m7 + 1 := ⟨_, rfl⟩
                  refine lv_iinc (v := x52) (lv' := [(7, .int x52), (6, .int x51), (3, .int r6), (5, .int m6), (4, .int 1), (8, .int r6), (2, .int r1), (0, .ref (g.2.2.1 4)), (1, .int a0)]) hx hb dX3_explain_102 hl (k := 5) rfl (by rw [e52]; rfl) (by decide) rfl (fun ls hl => ?_)
                  try have t52 : x52.toInt = m7.toInt + 1 := tadd e52 rfl kp1 (by omega)
                  refine lv_goto (tgt := 21) hx hb dX3_explain_105 (by decide) ?_
                  refine ih r6 1 m6 x51 x52 H locs ls ?_ ?_ hW (lv_sub hl [0, 1, 3, 4, 2, 6, 7, 8] rfl)
                  · show (2048 - x52.toInt).toNat < n
                    omega
                  · show 0 ≤ x52.toInt
                    first | omega | exact hi | assumption
                · have c49 : m6.toInt = r1.toInt := teq rfl rfl c49
                  refine lv_goto (tgt := 108) hx hb dX3_explain_91 (by decide) ?_
                  refine lv_iload hx hb dX3_explain_108 (lv_at hl 1 rfl) ?_
                  refine lv_bipush (v := (-9)) hx hb dX3_explain_110 (by decide) ?_
                  refine lv_icmp_ne (tgt := 118) hx hb dX3_explain_112 (by decide) (fun c53 => ?_) (fun c53 => ?_)
                  · have c53 : ¬ m6.toInt = (-9) := tne rfl kn9 c53
                    refine lv_iload_n hx hb dX3_explain_118 rfl (lv_at hl 8 rfl) ?_
                    refine lv_if_ne (tgt := 126) hx hb dX3_explain_119 (by decide) (fun c54 => ?_) (fun c54 => ?_)
                    · have c54 : ¬ a0.toInt = 0 := tne rfl kp0 c54
                      refine lv_iload_n hx hb dX3_explain_126 rfl (lv_at hl 8 rfl) ?_
                      refine lv_iconst (v := 1) hx hb dX3_explain_127 (by decide) ?_
                      refine lv_icmp_ne (tgt := 136) hx hb dX3_explain_128 (by decide) (fun c55 => ?_) (fun c55 => ?_)
                      · have c55 : ¬ a0.toInt = 1 := tne rfl kp1 c55
                        refine lv_iload hx hb dX3_explain_136 (lv_at hl 1 rfl) ?_
                        exact end_i C hr hlocks () hW trivial dX3_explain_138
                      · have c55 : a0.toInt = 1 := teq rfl kp1 c55
                        refine lv_iload hx hb dX3_explain_131 (lv_at hl 2 rfl) ?_
                        refine lv_goto (tgt := 138) hx hb dX3_explain_133 (by decide) ?_
                        exact end_i C hr hlocks () hW trivial dX3_explain_138
                    · have c54 : a0.toInt = 0 := teq rfl kp0 c54
                      refine lv_iload_n hx hb dX3_explain_122 rfl (lv_at hl 0 rfl) ?_
                      refine lv_goto (tgt := 138) hx hb dX3_explain_123 (by decide) ?_
                      exact end_i C hr hlocks () hW trivial dX3_explain_138
                  · have c53 : m6.toInt = (-9) := teq rfl kn9 c53
                    refine lv_bipush (v := (-9)) hx hb dX3_explain_115 (by decide) ?_
                    exact end_i C hr hlocks () hW trivial dX3_explain_117
  -- into the loop
  refine loop21 ((2048 - (0 : Int32).toInt).toNat + 1) 20 0 (-9) 0 0 H locs ls ?_ ?_ hW (lv_sub hl [0, 1, 2, 3, 4, 5, 6, 7] rfl)
  · exact Nat.lt_succ_self _
  · show 0 ≤ (0 : Int32).toInt
    try rw [kp20]
    try rw [kp0]
    try rw [kn9]
    try rw [kp0]
    try rw [kp0]
    first | omega | exact hi | assumption

set_option maxHeartbeats 4000000 in
set_option maxRecDepth 100000 in
theorem c_X3_fewestHours (l : Launch) (g : gG) (J : Nat → Nat → Int32) (L : Nat → Nat → Int64) (I : Nat → Nat → Nat → Int32) (P : Nat → Nat → Nat → Option Nat) (E : Nat → Option Nat) (N : Nat → Nat) (dy : List (Nat × Nat)) (sz : Nat) (a0 : Int32) (a1 : Int32) (hwf : WXF g J P E N dy) : Met l yX3_fewestHours (WS yX3_fewestHours cX3_fewestHours 8 (some .int)) (RM (5) 0 0) (PC g [.ref (g.2.2.1 4), .int a0, .int a1] ((J, L, I, P, E, N), sgX g ++ dy) sz) (va_Qi (fun (r : Int32) (u : Unit) => True) (fun u t => at_ g (FR g ((J, L, I, P, E, N), sgX g ++ dy) sz) ((J, L, I, P, E, N), sgX g ++ dy) t) (FR g ((J, L, I, P, E, N), sgX g ++ dy) sz)) 0 0 (FR g ((J, L, I, P, E, N), sgX g ++ dy) sz) := by
  refine ent (by decide +kernel) (Nat.le_of_ble_eq_true rfl) ?_
  intro p e s m below meth c ls hsz C hW hr hlocks hname hl
  generalize FR g ((J, L, I, P, E, N), sgX g ++ dy) sz = A at C hW ⊢
  have hx := C.1.1
  have hb := C.1.2.1
  have hts := C.1.2.2.2.2
  have hl : lv_has ls 8 [(0, .ref (g.2.2.1 4)), (1, .int a0), (2, .int a1)] := hl
  obtain ⟨H, hH⟩ : ∃ H : Heap, H = s.heap := ⟨_, rfl⟩
  obtain ⟨locs, hlocs⟩ : ∃ q : List Loc, q = [] := ⟨_, rfl⟩
  have hW : WB g A s.heap H locs (J, L, I, P, E, N) (sgX g ++ dy) := by rw [hH, hlocs]; exact hW
  refine start_ hH hlocs ?_
  refine lv_aload_n hx hb dX3_fewestHours_0 rfl (lv_at hl 0 rfl) ?_
  refine lv_iload_n hx hb dX3_fewestHours_1 rfl (lv_at hl 1 rfl) ?_
  refine ci_ C hW (runV (x := (g.2.2.1 4)) (As := [.int a0]) (rest := []) (T := ((J, L, I, P, E, N), sgX g ++ dy)) C hW (c_X3_covered l g J L I P E N dy H.size a0 hwf) mi_X3_covered tw_932 (recv_ (T := ((J, L, I, P, E, N), sgX g ++ dy)) C hW (mx_ rfl) rfl rfl) ⟨rfl, rfl, Nat.le_of_ble_eq_true rfl, Nat.le_of_ble_eq_true rfl⟩ rfl hl.1 rfl (Nat.le_of_ble_eq_true rfl) dX3_fewestHours_2 ⟨Nat.le_of_ble_eq_true rfl, Nat.le_of_ble_eq_true rfl⟩) (fun r1 u1 H locs hp1 hW => ?_)
  have hW : WB g A s.heap H locs (J, L, I, P, E, N) (sgX g ++ dy) := hW
  refine lv_iload_n hx hb dX3_fewestHours_5 rfl (lv_at hl 2 rfl) ?_
  refine lv_icmp_ge (tgt := 12) hx hb dX3_fewestHours_6 (by decide) (fun c2 => ?_) (fun c2 => ?_)
  · have c2 : a1.toInt ≤ r1.toInt := tle rfl rfl c2
    refine lv_bipush (v := 25) hx hb dX3_fewestHours_12 (by decide) ?_
    refine lv_istore_n (lv' := [(3, .int 25), (0, .ref (g.2.2.1 4)), (1, .int a0), (2, .int a1)]) hx hb dX3_fewestHours_14 rfl hl (by decide) rfl (fun ls hl => ?_)
    refine lv_bipush (v := (-9)) hx hb dX3_fewestHours_15 (by decide) ?_
    refine lv_istore (lv' := [(4, .int (-9)), (3, .int 25), (0, .ref (g.2.2.1 4)), (1, .int a0), (2, .int a1)]) hx hb dX3_fewestHours_17 hl (by decide) rfl (fun ls hl => ?_)
    refine lv_iconst (v := 0) hx hb dX3_fewestHours_19 (by decide) ?_
    refine lv_istore (lv' := [(5, .int 0), (4, .int (-9)), (3, .int 25), (0, .ref (g.2.2.1 4)), (1, .int a0), (2, .int a1)]) hx hb dX3_fewestHours_20 hl (by decide) rfl (fun ls hl => ?_)
    refine lv_iconst (v := 0) hx hb dX3_fewestHours_22 (by decide) ?_
    refine lv_istore (lv' := [(6, .int 0), (5, .int 0), (4, .int (-9)), (3, .int 25), (0, .ref (g.2.2.1 4)), (1, .int a0), (2, .int a1)]) hx hb dX3_fewestHours_23 hl (by decide) rfl (fun ls hl => ?_)
    have loop25 : ∀ (n : Nat) (m3 : Int32) (m4 : Int32) (m5 : Int32) (m6 : Int32) (H : Heap) (locs : List Loc) (ls : Array Slot), (4096 - m6.toInt).toNat < n → 0 ≤ m6.toInt → WB g A s.heap H locs (J, L, I, P, E, N) (sgX g ++ dy) → lv_has ls 8 [(6, .int m6), (5, .int m5), (4, .int m4), (3, .int m3), (0, .ref (g.2.2.1 4)), (1, .int a0), (2, .int a1)] → W p l e (RM (5) 0 0) s m ([.ref (g.2.2.1 4), .int a0, .int a1] : List Value).toArray below meth c H locs 0 0 (MQ below (va_Qi (fun (r : Int32) (u : Unit) => True) (fun u t => at_ g A ((J, L, I, P, E, N), sgX g ++ dy) t) A) ([.ref (g.2.2.1 4), .int a0, .int a1] : List Value).toArray s 0 0 A) (F0 m 25 ls []) := by
      intro n
      induction n with
      | zero => intro m3 m4 m5 m6 H locs ls hmeas; exact absurd hmeas (Nat.not_lt_zero _)
      | succ n ih =>
        intro m3 m4 m5 m6 H locs ls hmeas hi hW hl
        refine lv_iload hx hb dX3_fewestHours_25 (lv_at hl 0 rfl) ?_
        refine lv_sipush (v := 4096) hx hb dX3_fewestHours_27 (by decide) ?_
        refine lv_icmp_ge (tgt := 86) hx hb dX3_fewestHours_30 (by decide) (fun c3 => ?_) (fun c3 => ?_)
        · have c3 : 4096 ≤ m6.toInt := tle kp4096 rfl c3
          refine lv_iload hx hb dX3_fewestHours_86 (lv_at hl 2 rfl) ?_
          exact end_i C hr hlocks () hW trivial dX3_fewestHours_88
        · have c3 : m6.toInt < 4096 := tnle kp4096 rfl c3
          refine lv_iload hx hb dX3_fewestHours_33 (lv_at hl 1 rfl) ?_
          refine ci_ C hW (runS (As := [.int m5]) (rest := []) (T := ((J, L, I, P, E, N), sgX g ++ dy)) C hW (c_J6_bitCount_0f7a4 l g J L I P E N dy H.size m5 ) mi_J6_bitCount_0f7a4 tw_864 ⟨rfl, rfl, Nat.le_of_ble_eq_true rfl, Nat.le_of_ble_eq_true rfl⟩ rfl hl.1 rfl (Nat.le_of_ble_eq_true rfl) dX3_fewestHours_35 ⟨Nat.le_of_ble_eq_true rfl, Nat.le_of_ble_eq_true rfl⟩) (fun r4 u4 H locs hp4 hW => ?_)
          have hW : WB g A s.heap H locs (J, L, I, P, E, N) (sgX g ++ dy) := hW
          refine lv_istore (lv' := [(7, .int r4), (6, .int m6), (5, .int m5), (4, .int m4), (3, .int m3), (0, .ref (g.2.2.1 4)), (1, .int a0), (2, .int a1)]) hx hb dX3_fewestHours_38 hl (by decide) rfl (fun ls hl => ?_)
          refine lv_iload hx hb dX3_fewestHours_40 (lv_at hl 0 rfl) ?_
          refine lv_iload_n hx hb dX3_fewestHours_42 rfl (lv_at hl 4 rfl) ?_
          refine lv_icmp_ge (tgt := 63) hx hb dX3_fewestHours_43 (by decide) (fun c5 => ?_) (fun c5 => ?_)
          · have c5 : m3.toInt ≤ r4.toInt := tle rfl rfl c5
            refine lv_iload hx hb dX3_fewestHours_63 (lv_at hl 2 rfl) ?_
            refine lv_iload_n hx hb dX3_fewestHours_65 rfl (lv_at hl 6 rfl) ?_
            refine lv_icmp_ne (tgt := 72) hx hb dX3_fewestHours_66 (by decide) (fun c6 => ?_) (fun c6 => ?_)
            · have c6 : ¬ m5.toInt = a0.toInt := tne rfl rfl c6
              refine lv_iload hx hb dX3_fewestHours_72 (lv_at hl 2 rfl) ?_
              refine lv_iload_n hx hb dX3_fewestHours_74 rfl (lv_at hl 6 rfl) ?_
              refine lv_isub hx hb dX3_fewestHours_75 ?_
              refine lv_topi (fun x7 (e7 : x7 = m5 - a0) => ?_)
              try have t7 : x7.toInt = m5.toInt - a0.toInt := tsub e7 rfl rfl (by omega)
              refine lv_iload_n hx hb dX3_fewestHours_76 rfl (lv_at hl 6 rfl) ?_
              refine lv_iand hx hb dX3_fewestHours_77 ?_
              refine lv_topi (fun x8 (e8 : x8 = x7 &&& a0) => ?_)
              refine lv_istore (lv' := [(5, .int x8), (7, .int r4), (6, .int m6), (4, .int m4), (3, .int m3), (0, .ref (g.2.2.1 4)), (1, .int a0), (2, .int a1)]) hx hb dX3_fewestHours_78 hl (by decide) rfl (fun ls hl => ?_)
              obtain ⟨x9, e9⟩ : ∃ y : Int32, y = m6 + 1 := ⟨_, rfl⟩
              refine lv_iinc (v := x9) (lv' := [(6, .int x9), (5, .int x8), (7, .int r4), (4, .int m4), (3, .int m3), (0, .ref (g.2.2.1 4)), (1, .int a0), (2, .int a1)]) hx hb dX3_fewestHours_80 hl (k := 2) rfl (by rw [e9]; rfl) (by decide) rfl (fun ls hl => ?_)
              try have t9 : x9.toInt = m6.toInt + 1 := tadd e9 rfl kp1 (by omega)
              refine lv_goto (tgt := 25) hx hb dX3_fewestHours_83 (by decide) ?_
              refine ih m3 m4 x8 x9 H locs ls ?_ ?_ hW (lv_sub hl [0, 1, 3, 4, 5, 6, 7] rfl)
              · show (4096 - x9.toInt).toNat < n
                omega
              · show 0 ≤ x9.toInt
                first | omega | exact hi | assumption
            · have c6 : m5.toInt = a0.toInt := teq rfl rfl c6
              refine lv_goto (tgt := 86) hx hb dX3_fewestHours_69 (by decide) ?_
              refine lv_iload hx hb dX3_fewestHours_86 (lv_at hl 3 rfl) ?_
              exact end_i C hr hlocks () hW trivial dX3_fewestHours_88
          · have c5 : r4.toInt < m3.toInt := tnle rfl rfl c5
            refine lv_aload_n hx hb dX3_fewestHours_46 rfl (lv_at hl 5 rfl) ?_
            refine lv_iload hx hb dX3_fewestHours_47 (lv_at hl 2 rfl) ?_
            refine ci_ C hW (runV (x := (g.2.2.1 4)) (As := [.int m5]) (rest := []) (T := ((J, L, I, P, E, N), sgX g ++ dy)) C hW (c_X3_covered l g J L I P E N dy H.size m5 hwf) mi_X3_covered tw_932 (recv_ (T := ((J, L, I, P, E, N), sgX g ++ dy)) C hW (mx_ rfl) rfl rfl) ⟨rfl, rfl, Nat.le_of_ble_eq_true rfl, Nat.le_of_ble_eq_true rfl⟩ rfl hl.1 rfl (Nat.le_of_ble_eq_true rfl) dX3_fewestHours_49 ⟨Nat.le_of_ble_eq_true rfl, Nat.le_of_ble_eq_true rfl⟩) (fun r10 u10 H locs hp10 hW => ?_)
            have hW : WB g A s.heap H locs (J, L, I, P, E, N) (sgX g ++ dy) := hW
            refine lv_iload_n hx hb dX3_fewestHours_52 rfl (lv_at hl 7 rfl) ?_
            refine lv_icmp_lt (tgt := 63) hx hb dX3_fewestHours_53 (by decide) (fun c11 => ?_) (fun c11 => ?_)
            · have c11 : r10.toInt < a1.toInt := tlt rfl rfl c11
              refine lv_iload hx hb dX3_fewestHours_63 (lv_at hl 2 rfl) ?_
              refine lv_iload_n hx hb dX3_fewestHours_65 rfl (lv_at hl 6 rfl) ?_
              refine lv_icmp_ne (tgt := 72) hx hb dX3_fewestHours_66 (by decide) (fun c12 => ?_) (fun c12 => ?_)
              · have c12 : ¬ m5.toInt = a0.toInt := tne rfl rfl c12
                refine lv_iload hx hb dX3_fewestHours_72 (lv_at hl 2 rfl) ?_
                refine lv_iload_n hx hb dX3_fewestHours_74 rfl (lv_at hl 6 rfl) ?_
                refine lv_isub hx hb dX3_fewestHours_75 ?_
                refine lv_topi (fun x13 (e13 : x13 = m5 - a0) => ?_)
                try have t13 : x13.toInt = m5.toInt - a0.toInt := tsub e13 rfl rfl (by omega)
                refine lv_iload_n hx hb dX3_fewestHours_76 rfl (lv_at hl 6 rfl) ?_
                refine lv_iand hx hb dX3_fewestHours_77 ?_
                refine lv_topi (fun x14 (e14 : x14 = x13 &&& a0) => ?_)
                refine lv_istore (lv' := [(5, .int x14), (7, .int r4), (6, .int m6), (4, .int m4), (3, .int m3), (0, .ref (g.2.2.1 4)), (1, .int a0), (2, .int a1)]) hx hb dX3_fewestHours_78 hl (by decide) rfl (fun ls hl => ?_)
                obtain ⟨x15, e15⟩ : ∃ y : Int32, y = m6 + 1 := ⟨_, rfl⟩
                refine lv_iinc (v := x15) (lv' := [(6, .int x15), (5, .int x14), (7, .int r4), (4, .int m4), (3, .int m3), (0, .ref (g.2.2.1 4)), (1, .int a0), (2, .int a1)]) hx hb dX3_fewestHours_80 hl (k := 2) rfl (by rw [e15]; rfl) (by decide) rfl (fun ls hl => ?_)
                try have t15 : x15.toInt = m6.toInt + 1 := tadd e15 rfl kp1 (by omega)
                refine lv_goto (tgt := 25) hx hb dX3_fewestHours_83 (by decide) ?_
                refine ih m3 m4 x14 x15 H locs ls ?_ ?_ hW (lv_sub hl [0, 1, 3, 4, 5, 6, 7] rfl)
                · show (4096 - x15.toInt).toNat < n
                  omega
                · show 0 ≤ x15.toInt
                  first | omega | exact hi | assumption
              · have c12 : m5.toInt = a0.toInt := teq rfl rfl c12
                refine lv_goto (tgt := 86) hx hb dX3_fewestHours_69 (by decide) ?_
                refine lv_iload hx hb dX3_fewestHours_86 (lv_at hl 3 rfl) ?_
                exact end_i C hr hlocks () hW trivial dX3_fewestHours_88
            · have c11 : a1.toInt ≤ r10.toInt := tnlt rfl rfl c11
              refine lv_iload hx hb dX3_fewestHours_56 (lv_at hl 0 rfl) ?_
              refine lv_istore_n (lv' := [(3, .int r4), (7, .int r4), (6, .int m6), (5, .int m5), (4, .int m4), (0, .ref (g.2.2.1 4)), (1, .int a0), (2, .int a1)]) hx hb dX3_fewestHours_58 rfl hl (by decide) rfl (fun ls hl => ?_)
              refine lv_iload hx hb dX3_fewestHours_59 (lv_at hl 3 rfl) ?_
              refine lv_istore (lv' := [(4, .int m5), (3, .int r4), (7, .int r4), (6, .int m6), (5, .int m5), (0, .ref (g.2.2.1 4)), (1, .int a0), (2, .int a1)]) hx hb dX3_fewestHours_61 hl (by decide) rfl (fun ls hl => ?_)
              refine lv_iload hx hb dX3_fewestHours_63 (lv_at hl 4 rfl) ?_
              refine lv_iload_n hx hb dX3_fewestHours_65 rfl (lv_at hl 6 rfl) ?_
              refine lv_icmp_ne (tgt := 72) hx hb dX3_fewestHours_66 (by decide) (fun c16 => ?_) (fun c16 => ?_)
              · have c16 : ¬ m5.toInt = a0.toInt := tne rfl rfl c16
                refine lv_iload hx hb dX3_fewestHours_72 (lv_at hl 4 rfl) ?_
                refine lv_iload_n hx hb dX3_fewestHours_74 rfl (lv_at hl 6 rfl) ?_
                refine lv_isub hx hb dX3_fewestHours_75 ?_
                refine lv_topi (fun x17 (e17 : x17 = m5 - a0) => ?_)
                try have t17 : x17.toInt = m5.toInt - a0.toInt := tsub e17 rfl rfl (by omega)
                refine lv_iload_n hx hb dX3_fewestHours_76 rfl (lv_at hl 6 rfl) ?_
                refine lv_iand hx hb dX3_fewestHours_77 ?_
                refine lv_topi (fun x18 (e18 : x18 = x17 &&& a0) => ?_)
                refine lv_istore (lv' := [(5, .int x18), (4, .int m5), (3, .int r4), (7, .int r4), (6, .int m6), (0, .ref (g.2.2.1 4)), (1, .int a0), (2, .int a1)]) hx hb dX3_fewestHours_78 hl (by decide) rfl (fun ls hl => ?_)
                obtain ⟨x19, e19⟩ : ∃ y : Int32, y = m6 + 1 := ⟨_, rfl⟩
                refine lv_iinc (v := x19) (lv' := [(6, .int x19), (5, .int x18), (4, .int m5), (3, .int r4), (7, .int r4), (0, .ref (g.2.2.1 4)), (1, .int a0), (2, .int a1)]) hx hb dX3_fewestHours_80 hl (k := 4) rfl (by rw [e19]; rfl) (by decide) rfl (fun ls hl => ?_)
                try have t19 : x19.toInt = m6.toInt + 1 := tadd e19 rfl kp1 (by omega)
                refine lv_goto (tgt := 25) hx hb dX3_fewestHours_83 (by decide) ?_
                refine ih r4 m5 x18 x19 H locs ls ?_ ?_ hW (lv_sub hl [0, 1, 2, 3, 5, 6, 7] rfl)
                · show (4096 - x19.toInt).toNat < n
                  omega
                · show 0 ≤ x19.toInt
                  first | omega | exact hi | assumption
              · have c16 : m5.toInt = a0.toInt := teq rfl rfl c16
                refine lv_goto (tgt := 86) hx hb dX3_fewestHours_69 (by decide) ?_
                refine lv_iload hx hb dX3_fewestHours_86 (lv_at hl 0 rfl) ?_
                exact end_i C hr hlocks () hW trivial dX3_fewestHours_88
    -- into the loop
    refine loop25 ((4096 - (0 : Int32).toInt).toNat + 1) 25 (-9) 0 0 H locs ls ?_ ?_ hW (lv_sub hl [0, 1, 2, 3, 4, 5, 6] rfl)
    · exact Nat.lt_succ_self _
    · show 0 ≤ (0 : Int32).toInt
      try rw [kp25]
      try rw [kn9]
      try rw [kp0]
      try rw [kp0]
      first | omega | exact hi | assumption
  · have c2 : r1.toInt < a1.toInt := tnle rfl rfl c2
    refine lv_bipush (v := (-9)) hx hb dX3_fewestHours_9 (by decide) ?_
    exact end_i C hr hlocks () hW trivial dX3_fewestHours_11
