theorem dX8_init_0 : decode cX8_init 0 = .ok (.aload_n 0, 1) := dk_aload_n_0 (by decide +kernel)
theorem dX8_init_1 : decode cX8_init 1 = .ok (.invokespecial 3, 3) := dk_invokespecial (by decide +kernel)
theorem dX8_init_4 : decode cX8_init 4 = .ok (.aload_n 0, 1) := dk_aload_n_0 (by decide +kernel)
theorem dX8_init_5 : decode cX8_init 5 = .ok (.bipush (-9), 2) := dk_bipush (by decide +kernel)
theorem dX8_init_7 : decode cX8_init 7 = .ok (.putfield 9, 3) := dk_putfield (by decide +kernel)
theorem dX8_init_10 : decode cX8_init 10 = .ok (.aload_n 0, 1) := dk_aload_n_0 (by decide +kernel)
theorem dX8_init_11 : decode cX8_init 11 = .ok (.bipush (-9), 2) := dk_bipush (by decide +kernel)
theorem dX8_init_13 : decode cX8_init 13 = .ok (.putfield 15, 3) := dk_putfield (by decide +kernel)
theorem dX8_init_16 : decode cX8_init 16 = .ok (.aload_n 0, 1) := dk_aload_n_0 (by decide +kernel)
theorem dX8_init_17 : decode cX8_init 17 = .ok (.iload_n 1, 1) := dk_iload_n_1 (by decide +kernel)
theorem dX8_init_18 : decode cX8_init 18 = .ok (.putfield 18, 3) := dk_putfield (by decide +kernel)
theorem dX8_init_21 : decode cX8_init 21 = .ok (.aload_n 0, 1) := dk_aload_n_0 (by decide +kernel)
theorem dX8_init_22 : decode cX8_init 22 = .ok (.iload_n 1, 1) := dk_iload_n_1 (by decide +kernel)
theorem dX8_init_23 : decode cX8_init 23 = .ok (.iload_n 2, 1) := dk_iload_n_2 (by decide +kernel)
theorem dX8_init_24 : decode cX8_init 24 = .ok (.iadd, 1) := dk_iadd (by decide +kernel)
theorem dX8_init_25 : decode cX8_init 25 = .ok (.iconst 1, 1) := dk_iconst_1 (by decide +kernel)
theorem dX8_init_26 : decode cX8_init 26 = .ok (.isub, 1) := dk_isub (by decide +kernel)
theorem dX8_init_27 : decode cX8_init 27 = .ok (.putfield 21, 3) := dk_putfield (by decide +kernel)
theorem dX8_init_30 : decode cX8_init 30 = .ok (.aload_n 0, 1) := dk_aload_n_0 (by decide +kernel)
theorem dX8_init_31 : decode cX8_init 31 = .ok (.iload_n 3, 1) := dk_iload_n_3 (by decide +kernel)
theorem dX8_init_32 : decode cX8_init 32 = .ok (.putfield 24, 3) := dk_putfield (by decide +kernel)
theorem dX8_init_35 : decode cX8_init 35 = .ok (.aload_n 0, 1) := dk_aload_n_0 (by decide +kernel)
theorem dX8_init_36 : decode cX8_init 36 = .ok (.iload 4, 2) := dk_iload (by decide +kernel)
theorem dX8_init_38 : decode cX8_init 38 = .ok (.putfield 27, 3) := dk_putfield (by decide +kernel)
theorem dX8_init_41 : decode cX8_init 41 = .ok (.return_, 1) := dk_return_ (by decide +kernel)
theorem dX2_goBy_0 : decode cX2_goBy 0 = .ok (.aload_n 0, 1) := dk_aload_n_0 (by decide +kernel)
theorem dX2_goBy_1 : decode cX2_goBy 1 = .ok (.getfield 12, 3) := dk_getfield (by decide +kernel)
theorem dX2_goBy_4 : decode cX2_goBy 4 = .ok (.aload_n 1, 1) := dk_aload_n_1 (by decide +kernel)
theorem dX2_goBy_5 : decode cX2_goBy 5 = .ok (.invokevirtual 18, 3) := dk_invokevirtual (by decide +kernel)
theorem dX2_goBy_8 : decode cX2_goBy 8 = .ok (.pop, 1) := dk_pop (by decide +kernel)
theorem dX2_goBy_9 : decode cX2_goBy 9 = .ok (.aload_n 0, 1) := dk_aload_n_0 (by decide +kernel)
theorem dX2_goBy_10 : decode cX2_goBy 10 = .ok (.aload_n 1, 1) := dk_aload_n_1 (by decide +kernel)
theorem dX2_goBy_11 : decode cX2_goBy 11 = .ok (.getfield 22, 3) := dk_getfield (by decide +kernel)
theorem dX2_goBy_14 : decode cX2_goBy 14 = .ok (.iconst 1, 1) := dk_iconst_1 (by decide +kernel)
theorem dX2_goBy_15 : decode cX2_goBy 15 = .ok (.iadd, 1) := dk_iadd (by decide +kernel)
theorem dX2_goBy_16 : decode cX2_goBy 16 = .ok (.putfield 28, 3) := dk_putfield (by decide +kernel)
theorem dX2_goBy_19 : decode cX2_goBy 19 = .ok (.aload_n 0, 1) := dk_aload_n_0 (by decide +kernel)
theorem dX2_goBy_20 : decode cX2_goBy 20 = .ok (.dup, 1) := dk_dup (by decide +kernel)
theorem dX2_goBy_21 : decode cX2_goBy 21 = .ok (.getfield 31, 3) := dk_getfield (by decide +kernel)
theorem dX2_goBy_24 : decode cX2_goBy 24 = .ok (.aload_n 1, 1) := dk_aload_n_1 (by decide +kernel)
theorem dX2_goBy_25 : decode cX2_goBy 25 = .ok (.getfield 34, 3) := dk_getfield (by decide +kernel)
theorem dX2_goBy_28 : decode cX2_goBy 28 = .ok (.bipush 6, 2) := dk_bipush (by decide +kernel)
theorem dX2_goBy_30 : decode cX2_goBy 30 = .ok (.if_icmp .ne 17, 3) := dk_if_icmp_ne (by decide +kernel)
theorem dX2_goBy_33 : decode cX2_goBy 33 = .ok (.aload_n 1, 1) := dk_aload_n_1 (by decide +kernel)
theorem dX2_goBy_34 : decode cX2_goBy 34 = .ok (.getfield 22, 3) := dk_getfield (by decide +kernel)
theorem dX2_goBy_37 : decode cX2_goBy 37 = .ok (.aload_n 1, 1) := dk_aload_n_1 (by decide +kernel)
theorem dX2_goBy_38 : decode cX2_goBy 38 = .ok (.getfield 37, 3) := dk_getfield (by decide +kernel)
theorem dX2_goBy_41 : decode cX2_goBy 41 = .ok (.isub, 1) := dk_isub (by decide +kernel)
theorem dX2_goBy_42 : decode cX2_goBy 42 = .ok (.iconst 1, 1) := dk_iconst_1 (by decide +kernel)
theorem dX2_goBy_43 : decode cX2_goBy 43 = .ok (.iadd, 1) := dk_iadd (by decide +kernel)
theorem dX2_goBy_44 : decode cX2_goBy 44 = .ok (.goto 4, 3) := dk_goto (by decide +kernel)
theorem dX2_goBy_47 : decode cX2_goBy 47 = .ok (.iconst 0, 1) := dk_iconst_0 (by decide +kernel)
theorem dX2_goBy_48 : decode cX2_goBy 48 = .ok (.iadd, 1) := dk_iadd (by decide +kernel)
theorem dX2_goBy_49 : decode cX2_goBy 49 = .ok (.putfield 31, 3) := dk_putfield (by decide +kernel)
theorem dX2_goBy_52 : decode cX2_goBy 52 = .ok (.aload_n 0, 1) := dk_aload_n_0 (by decide +kernel)
theorem dX2_goBy_53 : decode cX2_goBy 53 = .ok (.dup, 1) := dk_dup (by decide +kernel)
theorem dX2_goBy_54 : decode cX2_goBy 54 = .ok (.getfield 40, 3) := dk_getfield (by decide +kernel)
theorem dX2_goBy_57 : decode cX2_goBy 57 = .ok (.aload_n 1, 1) := dk_aload_n_1 (by decide +kernel)
theorem dX2_goBy_58 : decode cX2_goBy 58 = .ok (.getfield 34, 3) := dk_getfield (by decide +kernel)
theorem dX2_goBy_61 : decode cX2_goBy 61 = .ok (.iconst 4, 1) := dk_iconst_4 (by decide +kernel)
theorem dX2_goBy_62 : decode cX2_goBy 62 = .ok (.if_icmp .ne 7, 3) := dk_if_icmp_ne (by decide +kernel)
theorem dX2_goBy_65 : decode cX2_goBy 65 = .ok (.iconst 1, 1) := dk_iconst_1 (by decide +kernel)
theorem dX2_goBy_66 : decode cX2_goBy 66 = .ok (.goto 4, 3) := dk_goto (by decide +kernel)
theorem dX2_goBy_69 : decode cX2_goBy 69 = .ok (.iconst 0, 1) := dk_iconst_0 (by decide +kernel)
theorem dX2_goBy_70 : decode cX2_goBy 70 = .ok (.iadd, 1) := dk_iadd (by decide +kernel)
theorem dX2_goBy_71 : decode cX2_goBy 71 = .ok (.putfield 40, 3) := dk_putfield (by decide +kernel)
theorem dX2_goBy_74 : decode cX2_goBy 74 = .ok (.return_, 1) := dk_return_ (by decide +kernel)
theorem dX6_readIn_0 : decode cX6_readIn 0 = .ok (.aload_n 0, 1) := dk_aload_n_0 (by decide +kernel)
theorem dX6_readIn_1 : decode cX6_readIn 1 = .ok (.aload_n 0, 1) := dk_aload_n_0 (by decide +kernel)
theorem dX6_readIn_2 : decode cX6_readIn 2 = .ok (.getfield 9, 3) := dk_getfield (by decide +kernel)
theorem dX6_readIn_5 : decode cX6_readIn 5 = .ok (.iload_n 1, 1) := dk_iload_n_1 (by decide +kernel)
theorem dX6_readIn_6 : decode cX6_readIn 6 = .ok (.iconst 1, 1) := dk_iconst_1 (by decide +kernel)
theorem dX6_readIn_7 : decode cX6_readIn 7 = .ok (.isub, 1) := dk_isub (by decide +kernel)
theorem dX6_readIn_8 : decode cX6_readIn 8 = .ok (.if_icmp .ne 12, 3) := dk_if_icmp_ne (by decide +kernel)
theorem dX6_readIn_11 : decode cX6_readIn 11 = .ok (.aload_n 0, 1) := dk_aload_n_0 (by decide +kernel)
theorem dX6_readIn_12 : decode cX6_readIn 12 = .ok (.getfield 18, 3) := dk_getfield (by decide +kernel)
theorem dX6_readIn_15 : decode cX6_readIn 15 = .ok (.iconst 1, 1) := dk_iconst_1 (by decide +kernel)
theorem dX6_readIn_16 : decode cX6_readIn 16 = .ok (.iadd, 1) := dk_iadd (by decide +kernel)
theorem dX6_readIn_17 : decode cX6_readIn 17 = .ok (.goto 4, 3) := dk_goto (by decide +kernel)
theorem dX6_readIn_20 : decode cX6_readIn 20 = .ok (.iconst 1, 1) := dk_iconst_1 (by decide +kernel)
theorem dX6_readIn_21 : decode cX6_readIn 21 = .ok (.putfield 18, 3) := dk_putfield (by decide +kernel)
theorem dX6_readIn_24 : decode cX6_readIn 24 = .ok (.aload_n 0, 1) := dk_aload_n_0 (by decide +kernel)
theorem dX6_readIn_25 : decode cX6_readIn 25 = .ok (.iload_n 1, 1) := dk_iload_n_1 (by decide +kernel)
theorem dX6_readIn_26 : decode cX6_readIn 26 = .ok (.putfield 9, 3) := dk_putfield (by decide +kernel)
theorem dX6_readIn_29 : decode cX6_readIn 29 = .ok (.return_, 1) := dk_return_ (by decide +kernel)
theorem dX11_pass_0 : decode cX11_pass 0 = .ok (.iload_n 1, 1) := dk_iload_n_1 (by decide +kernel)
theorem dX11_pass_1 : decode cX11_pass 1 = .ok (.iconst 1, 1) := dk_iconst_1 (by decide +kernel)
theorem dX11_pass_2 : decode cX11_pass 2 = .ok (.if_icmp .ge 10, 3) := dk_if_icmp_ge (by decide +kernel)
theorem dX11_pass_5 : decode cX11_pass 5 = .ok (.aload_n 0, 1) := dk_aload_n_0 (by decide +kernel)
theorem dX11_pass_6 : decode cX11_pass 6 = .ok (.bipush (-4), 2) := dk_bipush (by decide +kernel)
theorem dX11_pass_8 : decode cX11_pass 8 = .ok (.invokevirtual 67, 3) := dk_invokevirtual (by decide +kernel)
theorem dX11_pass_11 : decode cX11_pass 11 = .ok (.ireturn, 1) := dk_ireturn (by decide +kernel)
theorem dX11_pass_12 : decode cX11_pass 12 = .ok (.iload_n 1, 1) := dk_iload_n_1 (by decide +kernel)
theorem dX11_pass_13 : decode cX11_pass 13 = .ok (.sipush 9999, 3) := dk_sipush (by decide +kernel)
theorem dX11_pass_16 : decode cX11_pass 16 = .ok (.aload_n 0, 1) := dk_aload_n_0 (by decide +kernel)
theorem dX11_pass_17 : decode cX11_pass 17 = .ok (.getfield 19, 3) := dk_getfield (by decide +kernel)
theorem dX11_pass_20 : decode cX11_pass 20 = .ok (.getfield 71, 3) := dk_getfield (by decide +kernel)
theorem dX11_pass_23 : decode cX11_pass 23 = .ok (.isub, 1) := dk_isub (by decide +kernel)
theorem dX11_pass_24 : decode cX11_pass 24 = .ok (.if_icmp .le 10, 3) := dk_if_icmp_le (by decide +kernel)
theorem dX11_pass_27 : decode cX11_pass 27 = .ok (.aload_n 0, 1) := dk_aload_n_0 (by decide +kernel)
theorem dX11_pass_28 : decode cX11_pass 28 = .ok (.bipush (-6), 2) := dk_bipush (by decide +kernel)
theorem dX11_pass_30 : decode cX11_pass 30 = .ok (.invokevirtual 67, 3) := dk_invokevirtual (by decide +kernel)
theorem dX11_pass_33 : decode cX11_pass 33 = .ok (.ireturn, 1) := dk_ireturn (by decide +kernel)
theorem dX11_pass_34 : decode cX11_pass 34 = .ok (.aload_n 0, 1) := dk_aload_n_0 (by decide +kernel)
theorem dX11_pass_35 : decode cX11_pass 35 = .ok (.getfield 19, 3) := dk_getfield (by decide +kernel)
theorem dX11_pass_38 : decode cX11_pass 38 = .ok (.new 74, 3) := dk_new (by decide +kernel)
theorem dX11_pass_41 : decode cX11_pass 41 = .ok (.dup, 1) := dk_dup (by decide +kernel)
theorem dX11_pass_42 : decode cX11_pass 42 = .ok (.aload_n 0, 1) := dk_aload_n_0 (by decide +kernel)
theorem dX11_pass_43 : decode cX11_pass 43 = .ok (.getfield 19, 3) := dk_getfield (by decide +kernel)
theorem dX11_pass_46 : decode cX11_pass 46 = .ok (.getfield 71, 3) := dk_getfield (by decide +kernel)
theorem dX11_pass_49 : decode cX11_pass 49 = .ok (.iload_n 1, 1) := dk_iload_n_1 (by decide +kernel)
theorem dX11_pass_50 : decode cX11_pass 50 = .ok (.bipush 6, 2) := dk_bipush (by decide +kernel)
theorem dX11_pass_52 : decode cX11_pass 52 = .ok (.aload_n 0, 1) := dk_aload_n_0 (by decide +kernel)
theorem dX11_pass_53 : decode cX11_pass 53 = .ok (.getfield 10, 3) := dk_getfield (by decide +kernel)
theorem dX11_pass_56 : decode cX11_pass 56 = .ok (.getfield 76, 3) := dk_getfield (by decide +kernel)
theorem dX11_pass_59 : decode cX11_pass 59 = .ok (.invokespecial 79, 3) := dk_invokespecial (by decide +kernel)
theorem dX11_pass_62 : decode cX11_pass 62 = .ok (.invokevirtual 82, 3) := dk_invokevirtual (by decide +kernel)
theorem dX11_pass_65 : decode cX11_pass 65 = .ok (.aload_n 0, 1) := dk_aload_n_0 (by decide +kernel)
theorem dX11_pass_66 : decode cX11_pass 66 = .ok (.getfield 19, 3) := dk_getfield (by decide +kernel)
theorem dX11_pass_69 : decode cX11_pass 69 = .ok (.getfield 71, 3) := dk_getfield (by decide +kernel)
theorem dX11_pass_72 : decode cX11_pass 72 = .ok (.ireturn, 1) := dk_ireturn (by decide +kernel)
theorem dX11_stage_0 : decode cX11_stage 0 = .ok (.iload_n 1, 1) := dk_iload_n_1 (by decide +kernel)
theorem dX11_stage_1 : decode cX11_stage 1 = .ok (.invokestatic 119, 3) := dk_invokestatic (by decide +kernel)
theorem dX11_stage_4 : decode cX11_stage 4 = .ok (.istore_n 2, 1) := dk_istore_n_2 (by decide +kernel)
theorem dX11_stage_5 : decode cX11_stage 5 = .ok (.iload_n 2, 1) := dk_iload_n_2 (by decide +kernel)
theorem dX11_stage_6 : decode cX11_stage 6 = .ok (.ifCond .eq 9, 3) := dk_ifCond_eq (by decide +kernel)
theorem dX11_stage_9 : decode cX11_stage 9 = .ok (.aload_n 0, 1) := dk_aload_n_0 (by decide +kernel)
theorem dX11_stage_10 : decode cX11_stage 10 = .ok (.iload_n 2, 1) := dk_iload_n_2 (by decide +kernel)
theorem dX11_stage_11 : decode cX11_stage 11 = .ok (.invokevirtual 67, 3) := dk_invokevirtual (by decide +kernel)
theorem dX11_stage_14 : decode cX11_stage 14 = .ok (.ireturn, 1) := dk_ireturn (by decide +kernel)
theorem dX11_stage_15 : decode cX11_stage 15 = .ok (.aload_n 0, 1) := dk_aload_n_0 (by decide +kernel)
theorem dX11_stage_16 : decode cX11_stage 16 = .ok (.getfield 19, 3) := dk_getfield (by decide +kernel)
theorem dX11_stage_19 : decode cX11_stage 19 = .ok (.getfield 71, 3) := dk_getfield (by decide +kernel)
theorem dX11_stage_22 : decode cX11_stage 22 = .ok (.sipush 9999, 3) := dk_sipush (by decide +kernel)
theorem dX11_stage_25 : decode cX11_stage 25 = .ok (.if_icmp .lt 10, 3) := dk_if_icmp_lt (by decide +kernel)
theorem dX11_stage_28 : decode cX11_stage 28 = .ok (.aload_n 0, 1) := dk_aload_n_0 (by decide +kernel)
theorem dX11_stage_29 : decode cX11_stage 29 = .ok (.bipush (-6), 2) := dk_bipush (by decide +kernel)
theorem dX11_stage_31 : decode cX11_stage 31 = .ok (.invokevirtual 67, 3) := dk_invokevirtual (by decide +kernel)
theorem dX11_stage_34 : decode cX11_stage 34 = .ok (.ireturn, 1) := dk_ireturn (by decide +kernel)
theorem dX11_stage_35 : decode cX11_stage 35 = .ok (.aload_n 0, 1) := dk_aload_n_0 (by decide +kernel)
theorem dX11_stage_36 : decode cX11_stage 36 = .ok (.getfield 19, 3) := dk_getfield (by decide +kernel)
theorem dX11_stage_39 : decode cX11_stage 39 = .ok (.getfield 71, 3) := dk_getfield (by decide +kernel)
theorem dX11_stage_42 : decode cX11_stage 42 = .ok (.istore_n 3, 1) := dk_istore_n_3 (by decide +kernel)
theorem dX11_stage_43 : decode cX11_stage 43 = .ok (.new 74, 3) := dk_new (by decide +kernel)
theorem dX11_stage_46 : decode cX11_stage 46 = .ok (.dup, 1) := dk_dup (by decide +kernel)
theorem dX11_stage_47 : decode cX11_stage 47 = .ok (.iload_n 3, 1) := dk_iload_n_3 (by decide +kernel)
theorem dX11_stage_48 : decode cX11_stage 48 = .ok (.iconst 1, 1) := dk_iconst_1 (by decide +kernel)
theorem dX11_stage_49 : decode cX11_stage 49 = .ok (.iconst 3, 1) := dk_iconst_3 (by decide +kernel)
theorem dX11_stage_50 : decode cX11_stage 50 = .ok (.aload_n 0, 1) := dk_aload_n_0 (by decide +kernel)
theorem dX11_stage_51 : decode cX11_stage 51 = .ok (.getfield 10, 3) := dk_getfield (by decide +kernel)
theorem dX11_stage_54 : decode cX11_stage 54 = .ok (.getfield 76, 3) := dk_getfield (by decide +kernel)
theorem dX11_stage_57 : decode cX11_stage 57 = .ok (.invokespecial 79, 3) := dk_invokespecial (by decide +kernel)
theorem dX11_stage_60 : decode cX11_stage 60 = .ok (.astore 4, 2) := dk_astore (by decide +kernel)
theorem dX11_stage_62 : decode cX11_stage 62 = .ok (.aload 4, 2) := dk_aload (by decide +kernel)
theorem dX11_stage_64 : decode cX11_stage 64 = .ok (.iload_n 1, 1) := dk_iload_n_1 (by decide +kernel)
theorem dX11_stage_65 : decode cX11_stage 65 = .ok (.putfield 179, 3) := dk_putfield (by decide +kernel)
theorem dX11_stage_68 : decode cX11_stage 68 = .ok (.aload_n 0, 1) := dk_aload_n_0 (by decide +kernel)
theorem dX11_stage_69 : decode cX11_stage 69 = .ok (.getfield 19, 3) := dk_getfield (by decide +kernel)
theorem dX11_stage_72 : decode cX11_stage 72 = .ok (.aload 4, 2) := dk_aload (by decide +kernel)
theorem dX11_stage_74 : decode cX11_stage 74 = .ok (.invokevirtual 82, 3) := dk_invokevirtual (by decide +kernel)
theorem dX11_stage_77 : decode cX11_stage 77 = .ok (.iload_n 3, 1) := dk_iload_n_3 (by decide +kernel)
theorem dX11_stage_78 : decode cX11_stage 78 = .ok (.ireturn, 1) := dk_ireturn (by decide +kernel)
theorem dX11_say_0 : decode cX11_say 0 = .ok (.iload_n 1, 1) := dk_iload_n_1 (by decide +kernel)
theorem dX11_say_1 : decode cX11_say 1 = .ok (.ifCond .lt 13, 3) := dk_ifCond_lt (by decide +kernel)
theorem dX11_say_4 : decode cX11_say 4 = .ok (.iload_n 1, 1) := dk_iload_n_1 (by decide +kernel)
theorem dX11_say_5 : decode cX11_say 5 = .ok (.iconst 5, 1) := dk_iconst_5 (by decide +kernel)
theorem dX11_say_6 : decode cX11_say 6 = .ok (.if_icmp .gt 8, 3) := dk_if_icmp_gt (by decide +kernel)
theorem dX11_say_9 : decode cX11_say 9 = .ok (.iload_n 1, 1) := dk_iload_n_1 (by decide +kernel)
theorem dX11_say_10 : decode cX11_say 10 = .ok (.iconst 3, 1) := dk_iconst_3 (by decide +kernel)
theorem dX11_say_11 : decode cX11_say 11 = .ok (.if_icmp .ne 10, 3) := dk_if_icmp_ne (by decide +kernel)
theorem dX11_say_14 : decode cX11_say 14 = .ok (.aload_n 0, 1) := dk_aload_n_0 (by decide +kernel)
theorem dX11_say_15 : decode cX11_say 15 = .ok (.bipush (-2), 2) := dk_bipush (by decide +kernel)
theorem dX11_say_17 : decode cX11_say 17 = .ok (.invokevirtual 67, 3) := dk_invokevirtual (by decide +kernel)
theorem dX11_say_20 : decode cX11_say 20 = .ok (.ireturn, 1) := dk_ireturn (by decide +kernel)
theorem dX11_say_21 : decode cX11_say 21 = .ok (.aload_n 0, 1) := dk_aload_n_0 (by decide +kernel)
theorem dX11_say_22 : decode cX11_say 22 = .ok (.iload_n 2, 1) := dk_iload_n_2 (by decide +kernel)
theorem dX11_say_23 : decode cX11_say 23 = .ok (.invokevirtual 154, 3) := dk_invokevirtual (by decide +kernel)
theorem dX11_say_26 : decode cX11_say 26 = .ok (.astore 4, 2) := dk_astore (by decide +kernel)
theorem dX11_say_28 : decode cX11_say 28 = .ok (.aload 4, 2) := dk_aload (by decide +kernel)
theorem dX11_say_30 : decode cX11_say 30 = .ok (.ifnull 12, 3) := dk_ifnull (by decide +kernel)
theorem dX11_say_33 : decode cX11_say 33 = .ok (.aload_n 0, 1) := dk_aload_n_0 (by decide +kernel)
theorem dX11_say_34 : decode cX11_say 34 = .ok (.iload_n 1, 1) := dk_iload_n_1 (by decide +kernel)
theorem dX11_say_35 : decode cX11_say 35 = .ok (.iload_n 3, 1) := dk_iload_n_3 (by decide +kernel)
theorem dX11_say_36 : decode cX11_say 36 = .ok (.invokevirtual 162, 3) := dk_invokevirtual (by decide +kernel)
theorem dX11_say_39 : decode cX11_say 39 = .ok (.ifCond .ne 9, 3) := dk_ifCond_ne (by decide +kernel)
theorem dX11_say_42 : decode cX11_say 42 = .ok (.aload_n 0, 1) := dk_aload_n_0 (by decide +kernel)
theorem dX11_say_43 : decode cX11_say 43 = .ok (.iconst (-1), 1) := dk_iconst_m1 (by decide +kernel)
theorem dX11_say_44 : decode cX11_say 44 = .ok (.invokevirtual 67, 3) := dk_invokevirtual (by decide +kernel)
theorem dX11_say_47 : decode cX11_say 47 = .ok (.ireturn, 1) := dk_ireturn (by decide +kernel)
theorem dX11_say_48 : decode cX11_say 48 = .ok (.aload 4, 2) := dk_aload (by decide +kernel)
theorem dX11_say_50 : decode cX11_say 50 = .ok (.aload_n 0, 1) := dk_aload_n_0 (by decide +kernel)
theorem dX11_say_51 : decode cX11_say 51 = .ok (.getfield 19, 3) := dk_getfield (by decide +kernel)
theorem dX11_say_54 : decode cX11_say 54 = .ok (.getfield 71, 3) := dk_getfield (by decide +kernel)
theorem dX11_say_57 : decode cX11_say 57 = .ok (.aload_n 0, 1) := dk_aload_n_0 (by decide +kernel)
theorem dX11_say_58 : decode cX11_say 58 = .ok (.getfield 60, 3) := dk_getfield (by decide +kernel)
theorem dX11_say_61 : decode cX11_say 61 = .ok (.aload_n 0, 1) := dk_aload_n_0 (by decide +kernel)
theorem dX11_say_62 : decode cX11_say 62 = .ok (.getfield 64, 3) := dk_getfield (by decide +kernel)
theorem dX11_say_65 : decode cX11_say 65 = .ok (.invokevirtual 158, 3) := dk_invokevirtual (by decide +kernel)
theorem dX11_say_68 : decode cX11_say 68 = .ok (.ifCond .eq 12, 3) := dk_ifCond_eq (by decide +kernel)
theorem dX11_say_71 : decode cX11_say 71 = .ok (.aload_n 0, 1) := dk_aload_n_0 (by decide +kernel)
theorem dX11_say_72 : decode cX11_say 72 = .ok (.iload_n 1, 1) := dk_iload_n_1 (by decide +kernel)
theorem dX11_say_73 : decode cX11_say 73 = .ok (.iload_n 3, 1) := dk_iload_n_3 (by decide +kernel)
theorem dX11_say_74 : decode cX11_say 74 = .ok (.invokevirtual 166, 3) := dk_invokevirtual (by decide +kernel)
theorem dX11_say_77 : decode cX11_say 77 = .ok (.ifCond .ne 10, 3) := dk_ifCond_ne (by decide +kernel)
theorem dX11_say_80 : decode cX11_say 80 = .ok (.aload_n 0, 1) := dk_aload_n_0 (by decide +kernel)
theorem dX11_say_81 : decode cX11_say 81 = .ok (.bipush (-3), 2) := dk_bipush (by decide +kernel)
theorem dX11_say_83 : decode cX11_say 83 = .ok (.invokevirtual 67, 3) := dk_invokevirtual (by decide +kernel)
theorem dX11_say_86 : decode cX11_say 86 = .ok (.ireturn, 1) := dk_ireturn (by decide +kernel)
theorem dX11_say_87 : decode cX11_say 87 = .ok (.iload_n 1, 1) := dk_iload_n_1 (by decide +kernel)
theorem dX11_say_88 : decode cX11_say 88 = .ok (.iconst 2, 1) := dk_iconst_2 (by decide +kernel)
theorem dX11_say_89 : decode cX11_say 89 = .ok (.if_icmp .ne 19, 3) := dk_if_icmp_ne (by decide +kernel)
theorem dX11_say_92 : decode cX11_say 92 = .ok (.aload_n 0, 1) := dk_aload_n_0 (by decide +kernel)
theorem dX11_say_93 : decode cX11_say 93 = .ok (.aload 4, 2) := dk_aload (by decide +kernel)
theorem dX11_say_95 : decode cX11_say 95 = .ok (.invokevirtual 169, 3) := dk_invokevirtual (by decide +kernel)
theorem dX11_say_98 : decode cX11_say 98 = .ok (.ifCond .ne 10, 3) := dk_ifCond_ne (by decide +kernel)
theorem dX11_say_101 : decode cX11_say 101 = .ok (.aload_n 0, 1) := dk_aload_n_0 (by decide +kernel)
theorem dX11_say_102 : decode cX11_say 102 = .ok (.bipush (-3), 2) := dk_bipush (by decide +kernel)
theorem dX11_say_104 : decode cX11_say 104 = .ok (.invokevirtual 67, 3) := dk_invokevirtual (by decide +kernel)
theorem dX11_say_107 : decode cX11_say 107 = .ok (.ireturn, 1) := dk_ireturn (by decide +kernel)
theorem dX11_say_108 : decode cX11_say 108 = .ok (.aload_n 0, 1) := dk_aload_n_0 (by decide +kernel)
theorem dX11_say_109 : decode cX11_say 109 = .ok (.getfield 19, 3) := dk_getfield (by decide +kernel)
theorem dX11_say_112 : decode cX11_say 112 = .ok (.getfield 71, 3) := dk_getfield (by decide +kernel)
theorem dX11_say_115 : decode cX11_say 115 = .ok (.sipush 9999, 3) := dk_sipush (by decide +kernel)
theorem dX11_say_118 : decode cX11_say 118 = .ok (.if_icmp .lt 10, 3) := dk_if_icmp_lt (by decide +kernel)
theorem dX11_say_121 : decode cX11_say 121 = .ok (.aload_n 0, 1) := dk_aload_n_0 (by decide +kernel)
theorem dX11_say_122 : decode cX11_say 122 = .ok (.bipush (-6), 2) := dk_bipush (by decide +kernel)
theorem dX11_say_124 : decode cX11_say 124 = .ok (.invokevirtual 67, 3) := dk_invokevirtual (by decide +kernel)
theorem dX11_say_127 : decode cX11_say 127 = .ok (.ireturn, 1) := dk_ireturn (by decide +kernel)
theorem dX11_say_128 : decode cX11_say 128 = .ok (.aload_n 0, 1) := dk_aload_n_0 (by decide +kernel)
theorem dX11_say_129 : decode cX11_say 129 = .ok (.getfield 19, 3) := dk_getfield (by decide +kernel)
theorem dX11_say_132 : decode cX11_say 132 = .ok (.getfield 71, 3) := dk_getfield (by decide +kernel)
theorem dX11_say_135 : decode cX11_say 135 = .ok (.istore 5, 2) := dk_istore (by decide +kernel)
theorem dX11_say_137 : decode cX11_say 137 = .ok (.new 74, 3) := dk_new (by decide +kernel)
theorem dX11_say_140 : decode cX11_say 140 = .ok (.dup, 1) := dk_dup (by decide +kernel)
theorem dX11_say_141 : decode cX11_say 141 = .ok (.iload 5, 2) := dk_iload (by decide +kernel)
theorem dX11_say_143 : decode cX11_say 143 = .ok (.iconst 1, 1) := dk_iconst_1 (by decide +kernel)
theorem dX11_say_144 : decode cX11_say 144 = .ok (.iload_n 1, 1) := dk_iload_n_1 (by decide +kernel)
theorem dX11_say_145 : decode cX11_say 145 = .ok (.aload_n 0, 1) := dk_aload_n_0 (by decide +kernel)
theorem dX11_say_146 : decode cX11_say 146 = .ok (.getfield 10, 3) := dk_getfield (by decide +kernel)
theorem dX11_say_149 : decode cX11_say 149 = .ok (.getfield 76, 3) := dk_getfield (by decide +kernel)
theorem dX11_say_152 : decode cX11_say 152 = .ok (.invokespecial 79, 3) := dk_invokespecial (by decide +kernel)
theorem dX11_say_155 : decode cX11_say 155 = .ok (.astore 6, 2) := dk_astore (by decide +kernel)
theorem dX11_say_157 : decode cX11_say 157 = .ok (.aload 6, 2) := dk_aload (by decide +kernel)
theorem dX11_say_159 : decode cX11_say 159 = .ok (.iload_n 2, 1) := dk_iload_n_2 (by decide +kernel)
theorem dX11_say_160 : decode cX11_say 160 = .ok (.putfield 173, 3) := dk_putfield (by decide +kernel)
theorem dX11_say_163 : decode cX11_say 163 = .ok (.aload 6, 2) := dk_aload (by decide +kernel)
theorem dX11_say_165 : decode cX11_say 165 = .ok (.aload 4, 2) := dk_aload (by decide +kernel)
theorem dX11_say_167 : decode cX11_say 167 = .ok (.getfield 176, 3) := dk_getfield (by decide +kernel)
theorem dX11_say_170 : decode cX11_say 170 = .ok (.putfield 179, 3) := dk_putfield (by decide +kernel)
theorem dX11_say_173 : decode cX11_say 173 = .ok (.aload 6, 2) := dk_aload (by decide +kernel)
theorem dX11_say_175 : decode cX11_say 175 = .ok (.iload_n 1, 1) := dk_iload_n_1 (by decide +kernel)
theorem dX11_say_176 : decode cX11_say 176 = .ok (.invokestatic 180, 3) := dk_invokestatic (by decide +kernel)
theorem dX11_say_179 : decode cX11_say 179 = .ok (.ifCond .eq 11, 3) := dk_ifCond_eq (by decide +kernel)
theorem dX11_say_182 : decode cX11_say 182 = .ok (.iload_n 3, 1) := dk_iload_n_3 (by decide +kernel)
theorem dX11_say_183 : decode cX11_say 183 = .ok (.ifCond .lt 7, 3) := dk_ifCond_lt (by decide +kernel)
theorem dX11_say_186 : decode cX11_say 186 = .ok (.iload_n 3, 1) := dk_iload_n_3 (by decide +kernel)
theorem dX11_say_187 : decode cX11_say 187 = .ok (.goto 5, 3) := dk_goto (by decide +kernel)
theorem dX11_say_190 : decode cX11_say 190 = .ok (.bipush (-9), 2) := dk_bipush (by decide +kernel)
theorem dX11_say_192 : decode cX11_say 192 = .ok (.putfield 183, 3) := dk_putfield (by decide +kernel)
theorem dX11_say_195 : decode cX11_say 195 = .ok (.aload_n 0, 1) := dk_aload_n_0 (by decide +kernel)
theorem dX11_say_196 : decode cX11_say 196 = .ok (.getfield 19, 3) := dk_getfield (by decide +kernel)
theorem dX11_say_199 : decode cX11_say 199 = .ok (.aload 6, 2) := dk_aload (by decide +kernel)
theorem dX11_say_201 : decode cX11_say 201 = .ok (.invokevirtual 82, 3) := dk_invokevirtual (by decide +kernel)
theorem dX11_say_204 : decode cX11_say 204 = .ok (.aload 4, 2) := dk_aload (by decide +kernel)
theorem dX11_say_206 : decode cX11_say 206 = .ok (.iload 5, 2) := dk_iload (by decide +kernel)
theorem dX11_say_208 : decode cX11_say 208 = .ok (.invokevirtual 186, 3) := dk_invokevirtual (by decide +kernel)
theorem dX11_say_211 : decode cX11_say 211 = .ok (.aload_n 0, 1) := dk_aload_n_0 (by decide +kernel)
theorem dX11_say_212 : decode cX11_say 212 = .ok (.iload_n 1, 1) := dk_iload_n_1 (by decide +kernel)
theorem dX11_say_213 : decode cX11_say 213 = .ok (.iload_n 3, 1) := dk_iload_n_3 (by decide +kernel)
theorem dX11_say_214 : decode cX11_say 214 = .ok (.iload 5, 2) := dk_iload (by decide +kernel)
theorem dX11_say_216 : decode cX11_say 216 = .ok (.invokevirtual 189, 3) := dk_invokevirtual (by decide +kernel)
theorem dX11_say_219 : decode cX11_say 219 = .ok (.iload 5, 2) := dk_iload (by decide +kernel)
theorem dX11_say_221 : decode cX11_say 221 = .ok (.ireturn, 1) := dk_ireturn (by decide +kernel)
set_option maxHeartbeats 4000000 in
set_option maxRecDepth 100000 in
theorem c_X8_init (l : Launch) (g : gG) (J : Nat → Nat → Int32) (L : Nat → Nat → Int64) (I : Nat → Nat → Nat → Int32) (P : Nat → Nat → Nat → Option Nat) (E : Nat → Option Nat) (N : Nat → Nat) (dy : List (Nat × Nat)) (sz : Nat) (o : Nat) (hmo : (9, o) ∈ dy) (a0 : Int32) (a1 : Int32) (a2 : Int32) (a3 : Int32) (h4 : 0 ≤ a0.toInt ∧ a0.toInt ≤ 9999 ∧ 0 ≤ a1.toInt ∧ a1.toInt ≤ 9999) : Met l yX8_init (WS yX8_init cX8_init 5 none) (RM (2) 0 0) (PC g [.ref o, .int a0, .int a1, .int a2, .int a3] ((J, L, I, P, E, N), sgX g ++ dy) sz) (va_Qv (fun (u : Int32) => ((u).toInt = a0.toInt + a1.toInt - 1)) (fun u t => at_ g (FR g ((J, L, I, P, E, N), sgX g ++ dy) sz) (((J, L, (up3 (up3 (up3 (up3 (up3 (up3 I 9 4 o (-9)) 9 6 o (-9)) 9 0 o a0) 9 1 o u) 9 2 o a2) 9 3 o a3), P, E, N), sgX g ++ dy)) t) (FR g ((J, L, I, P, E, N), sgX g ++ dy) sz)) 0 0 (FR g ((J, L, I, P, E, N), sgX g ++ dy) sz) := by
  refine ent (by decide +kernel) (Nat.le_of_ble_eq_true rfl) ?_
  intro p e s m below meth c ls hsz C hW hr hlocks hname hl
  generalize FR g ((J, L, I, P, E, N), sgX g ++ dy) sz = A at C hW ⊢
  have hx := C.1.1
  have hb := C.1.2.1
  have hts := C.1.2.2.2.2
  have hl : lv_has ls 5 [(0, .ref o), (1, .int a0), (2, .int a1), (3, .int a2), (4, .int a3)] := hl
  obtain ⟨H, hH⟩ : ∃ H : Heap, H = s.heap := ⟨_, rfl⟩
  obtain ⟨locs, hlocs⟩ : ∃ q : List Loc, q = [] := ⟨_, rfl⟩
  have hW : WB g A s.heap H locs (J, L, I, P, E, N) (sgX g ++ dy) := by rw [hH, hlocs]; exact hW
  refine start_ hH hlocs ?_
  refine lv_aload_n hx hb dX8_init_0 rfl (lv_at hl 0 rfl) ?_
  refine W.objInit hx hb C.1.2.2.2.1 (hts _ tw_420) (hts _ tw_97) (hts _ tw_oi2) rfl (by rw [C.1.2.2.1]; exact hl.1) rfl dX8_init_1 (Nat.le_of_ble_eq_true rfl) (Nat.le_of_ble_eq_true rfl) ?_
  show W p l e (RM (2) 0 0) s m ([.ref o, .int a0, .int a1, .int a2, .int a3] : List Value).toArray below meth c H locs 0 0 (MQ below (va_Qv (fun (u : Int32) => ((u).toInt = a0.toInt + a1.toInt - 1)) (fun u t => at_ g A (((J, L, (up3 (up3 (up3 (up3 (up3 (up3 I 9 4 o (-9)) 9 6 o (-9)) 9 0 o a0) 9 1 o u) 9 2 o a2) 9 3 o a3), P, E, N), sgX g ++ dy)) t) A) ([.ref o, .int a0, .int a1, .int a2, .int a3] : List Value).toArray s 0 0 A) (F0 m 4 ls [])
  refine lv_aload_n hx hb dX8_init_4 rfl (lv_at hl 0 rfl) ?_
  refine lv_bipush (v := (-9)) hx hb dX8_init_5 (by decide) ?_
  refine rp_9_4 C hW (List.mem_append_right _ hmo) tw_433 dX8_init_7 (fun H locs hW => ?_)
  refine lv_aload_n hx hb dX8_init_10 rfl (lv_at hl 0 rfl) ?_
  refine lv_bipush (v := (-9)) hx hb dX8_init_11 (by decide) ?_
  refine rp_9_6 C hW (List.mem_append_right _ hmo) tw_437 dX8_init_13 (fun H locs hW => ?_)
  refine lv_aload_n hx hb dX8_init_16 rfl (lv_at hl 0 rfl) ?_
  refine lv_iload_n hx hb dX8_init_17 rfl (lv_at hl 1 rfl) ?_
  refine rp_9_0 C hname rfl hW (List.mem_append_right _ hmo) tw_421 dX8_init_18 (fun H locs hW => ?_)
  have hW : WB g A s.heap H locs (J, L, (up3 (up3 (up3 I 9 4 o (-9)) 9 6 o (-9)) 9 0 o a0), P, E, N) (sgX g ++ dy) := hW
  refine lv_aload_n hx hb dX8_init_21 rfl (lv_at hl 0 rfl) ?_
  refine lv_iload_n hx hb dX8_init_22 rfl (lv_at hl 1 rfl) ?_
  refine lv_iload_n hx hb dX8_init_23 rfl (lv_at hl 2 rfl) ?_
  refine lv_iadd hx hb dX8_init_24 ?_
  refine lv_topi (fun x1 (e1 : x1 = a0 + a1) => ?_)
  try have t1 : x1.toInt = a0.toInt + a1.toInt := tadd e1 rfl rfl (by omega)
  refine lv_iconst (v := 1) hx hb dX8_init_25 (by decide) ?_
  refine lv_isub hx hb dX8_init_26 ?_
  refine lv_topi (fun x2 (e2 : x2 = x1 - 1) => ?_)
  try have t2 : x2.toInt = x1.toInt - 1 := tsub e2 rfl kp1 (by omega)
  refine rp_9_1 C hname rfl hW (List.mem_append_right _ hmo) tw_423 dX8_init_27 (fun H locs hW => ?_)
  have hW : WB g A s.heap H locs (J, L, (up3 (up3 (up3 (up3 I 9 4 o (-9)) 9 6 o (-9)) 9 0 o a0) 9 1 o x2), P, E, N) (sgX g ++ dy) := hW
  refine lv_aload_n hx hb dX8_init_30 rfl (lv_at hl 0 rfl) ?_
  refine lv_iload_n hx hb dX8_init_31 rfl (lv_at hl 3 rfl) ?_
  refine rp_9_2 C hname rfl hW (List.mem_append_right _ hmo) tw_426 dX8_init_32 (fun H locs hW => ?_)
  have hW : WB g A s.heap H locs (J, L, (up3 (up3 (up3 (up3 (up3 I 9 4 o (-9)) 9 6 o (-9)) 9 0 o a0) 9 1 o x2) 9 2 o a2), P, E, N) (sgX g ++ dy) := hW
  refine lv_aload_n hx hb dX8_init_35 rfl (lv_at hl 0 rfl) ?_
  refine lv_iload hx hb dX8_init_36 (lv_at hl 4 rfl) ?_
  refine rp_9_3 C hname rfl hW (List.mem_append_right _ hmo) tw_430 dX8_init_38 (fun H locs hW => ?_)
  have hW : WB g A s.heap H locs (J, L, (up3 (up3 (up3 (up3 (up3 (up3 I 9 4 o (-9)) 9 6 o (-9)) 9 0 o a0) 9 1 o x2) 9 2 o a2) 9 3 o a3), P, E, N) (sgX g ++ dy) := hW
  exact end_v C hr hlocks x2 hW (by show (x2).toInt = a0.toInt + a1.toInt - 1; omega) dX8_init_41

set_option maxHeartbeats 4000000 in
set_option maxRecDepth 100000 in
theorem c_X2_goBy (l : Launch) (g : gG) (J : Nat → Nat → Int32) (L : Nat → Nat → Int64) (I : Nat → Nat → Nat → Int32) (P : Nat → Nat → Nat → Option Nat) (E : Nat → Option Nat) (N : Nat → Nat) (dy : List (Nat × Nat)) (sz : Nat) (a0 : Nat) (hm0 : (9, a0) ∈ dy) (hwf : WXF g J P E N dy) (hls : 0 ≤ (I 9 1 a0).toInt ∧ (I 9 1 a0).toInt ≤ 9998) (hs27 : (J 27 2).toInt ≤ 9999) : Met l yX2_goBy (WS yX2_goBy cX2_goBy 2 none) (RM (8) 5 20050) (PC g [.ref (g.2.2.1 3), .ref a0] ((J, L, I, P, E, N), sgX g ++ dy) sz) (va_Qv (fun (u : (Nat → Nat → Int32) × (Nat → Nat → Nat → Int32) × (Nat → Nat → Nat → Option Nat) × (Nat → Option Nat) × (Nat → Nat) × List (Nat × Nat)) => WXF g (hv J [] [(3, 1), (3, 2), (3, 3), (27, 0), (27, 2)] u.1) (hv P [37] [] u.2.2.1) (hv1 E [27] u.2.2.2.1) u.2.2.2.2.1 u.2.2.2.2.2 ∧ (∀ x ∈ dy, x ∈ u.2.2.2.2.2) ∧ ((u.1 3 1).toInt = (I 9 1 a0).toInt + 1) ∧ ((u.1 27 2).toInt = (J 27 2).toInt + 1)) (fun u t => at_ g (FR g ((J, L, I, P, E, N), sgX g ++ dy) sz) ((((hv J [] [(3, 1), (3, 2), (3, 3), (27, 0), (27, 2)] u.1), L, (hv I [] [] u.2.1), (hv P [37] [] u.2.2.1), (hv1 E [27] u.2.2.2.1), u.2.2.2.2.1), sgX g ++ u.2.2.2.2.2)) t) (FR g ((J, L, I, P, E, N), sgX g ++ dy) sz)) 5 20050 (FR g ((J, L, I, P, E, N), sgX g ++ dy) sz) := by
  refine ent (by decide +kernel) (Nat.le_of_ble_eq_true rfl) ?_
  intro p e s m below meth c ls hsz C hW hr hlocks hname hl
  generalize FR g ((J, L, I, P, E, N), sgX g ++ dy) sz = A at C hW ⊢
  have hx := C.1.1
  have hb := C.1.2.1
  have hts := C.1.2.2.2.2
  have hl : lv_has ls 2 [(0, .ref (g.2.2.1 3)), (1, .ref a0)] := hl
  obtain ⟨H, hH⟩ : ∃ H : Heap, H = s.heap := ⟨_, rfl⟩
  obtain ⟨locs, hlocs⟩ : ∃ q : List Loc, q = [] := ⟨_, rfl⟩
  have hW : WB g A s.heap H locs (J, L, I, P, E, N) (sgX g ++ dy) := by rw [hH, hlocs]; exact hW
  refine start_ hH hlocs ?_
  refine lv_aload_n hx hb dX2_goBy_0 rfl (lv_at hl 0 rfl) ?_
  refine rg_3_0 C hW (mx_ rfl) tw_276 dX2_goBy_1 ?_
  refine lv_aload_n hx hb dX2_goBy_4 rfl (lv_at hl 1 rfl) ?_
  refine ci_ C hW (runV (x := (g.2.2.1 27)) (As := [.ref a0]) (rest := []) (T := ((J, L, I, P, E, N), sgX g ++ dy)) C hW (c_Jx4a65c_add_9ea2d l g J L I P E N dy H.size 9 27 rfl rfl a0 hm0 hwf.2.1.2.2.2 (show (J 27 2).toInt ≤ 9999 from by omega)) mi_Jx4a65c_add_9ea2d tw_458 (recv_ (T := ((J, L, I, P, E, N), sgX g ++ dy)) C hW (mx_ rfl) (cel_list rfl) rfl) ⟨rfl, rfl, Nat.le_of_ble_eq_true rfl, Nat.le_of_ble_eq_true rfl⟩ rfl hl.1 rfl (Nat.le_of_ble_eq_true rfl) dX2_goBy_5 ⟨Nat.le_of_ble_eq_true rfl, Nat.le_of_ble_eq_true rfl⟩) (fun r1 u1 H locs hp1 hW => ?_)
  obtain ⟨hc1, hG1, hL1, hE1, hF1⟩ := hp1
  have hlo1 : 0 ≤ (J 27 2).toInt := (hwf.2.1.2.2.2).1
  have ht1 : (J 27 2 + 1).toInt = (J 27 2).toInt + 1 := tadd rfl rfl kp1 (by omega)
  have hW : WB g A s.heap H locs ((up2 (up2 J 27 0 u1.1) 27 2 (J 27 2 + 1)), L, I, (hv P [37] [] u1.2.1), (up1 E 27 u1.2.2.1), u1.2.2.2.1) (sgX g ++ u1.2.2.2.2) := hW
  have hwf : WXF g (up2 (up2 J 27 0 u1.1) 27 2 (J 27 2 + 1)) (hv P [37] [] u1.2.1) (up1 E 27 u1.2.2.1) u1.2.2.2.1 u1.2.2.2.2 := wxf_add27 hwf hG1 hL1
  refine lv_pop hx hb dX2_goBy_8 rfl ?_
  refine lv_aload_n hx hb dX2_goBy_9 rfl (lv_at hl 0 rfl) ?_
  refine lv_aload_n hx hb dX2_goBy_10 rfl (lv_at hl 1 rfl) ?_
  refine rg_9_1 C hW (List.mem_append_right _ (hG1.1 _ hm0)) tw_424 dX2_goBy_11 ?_
  refine lv_topi (fun x2 (e2 : x2 = I 9 1 a0) => ?_)
  have t2 : x2.toInt = (I 9 1 a0).toInt := by rw [e2]
  refine lv_iconst (v := 1) hx hb dX2_goBy_14 (by decide) ?_
  refine lv_iadd hx hb dX2_goBy_15 ?_
  refine lv_topi (fun x3 (e3 : x3 = x2 + 1) => ?_)
  try have t3 : x3.toInt = x2.toInt + 1 := tadd e3 rfl kp1 (by omega)
  refine rp_3_1 C hW (mx_ rfl) tw_277 dX2_goBy_16 (fun H locs hW => ?_)
  refine lv_aload_n hx hb dX2_goBy_19 rfl (lv_at hl 0 rfl) ?_
  refine lv_dup hx hb dX2_goBy_20 rfl ?_
  refine rg_3_2 C hW (mx_ rfl) tw_279 dX2_goBy_21 ?_
  refine lv_as (J 3 2) rfl ?_
  refine lv_aload_n hx hb dX2_goBy_24 rfl (lv_at hl 1 rfl) ?_
  refine rg_9_2 C hW (List.mem_append_right _ (hG1.1 _ hm0)) tw_427 dX2_goBy_25 ?_
  refine lv_topi (fun x4 (e4 : x4 = I 9 2 a0) => ?_)
  have t4 : x4.toInt = (I 9 2 a0).toInt := by rw [e4]
  refine lv_bipush (v := 6) hx hb dX2_goBy_28 (by decide) ?_
  refine lv_icmp_ne (tgt := 47) hx hb dX2_goBy_30 (by decide) (fun c5 => ?_) (fun c5 => ?_)
  · have c5 : ¬ x4.toInt = 6 := tne rfl kp6 c5
    refine lv_iconst (v := 0) hx hb dX2_goBy_47 (by decide) ?_
    refine lv_iadd hx hb dX2_goBy_48 ?_
    refine lv_topi (fun x6 (e6 : x6 = (J 3 2) + 0) => ?_)
    refine rp_3_2 C hW (mx_ rfl) tw_279 dX2_goBy_49 (fun H locs hW => ?_)
    refine lv_aload_n hx hb dX2_goBy_52 rfl (lv_at hl 0 rfl) ?_
    refine lv_dup hx hb dX2_goBy_53 rfl ?_
    refine rg_3_3 C hW (mx_ rfl) tw_281 dX2_goBy_54 ?_
    refine lv_as (J 3 3) rfl ?_
    refine lv_aload_n hx hb dX2_goBy_57 rfl (lv_at hl 1 rfl) ?_
    refine rg_9_2 C hW (List.mem_append_right _ (hG1.1 _ hm0)) tw_427 dX2_goBy_58 ?_
    refine lv_topi (fun x7 (e7 : x7 = I 9 2 a0) => ?_)
    have t7 : x7.toInt = (I 9 2 a0).toInt := by rw [e7]
    refine lv_iconst (v := 4) hx hb dX2_goBy_61 (by decide) ?_
    refine lv_icmp_ne (tgt := 69) hx hb dX2_goBy_62 (by decide) (fun c8 => ?_) (fun c8 => ?_)
    · have c8 : ¬ x7.toInt = 4 := tne rfl kp4 c8
      refine lv_iconst (v := 0) hx hb dX2_goBy_69 (by decide) ?_
      refine lv_iadd hx hb dX2_goBy_70 ?_
      refine lv_topi (fun x9 (e9 : x9 = (J 3 3) + 0) => ?_)
      refine rp_3_3 C hW (mx_ rfl) tw_281 dX2_goBy_71 (fun H locs hW => ?_)
      have hJe : (up2 (up2 (up2 (up2 (up2 J 27 0 u1.1) 27 2 (J 27 2 + 1)) 3 1 x3) 3 2 x6) 3 3 x9) = hv J [] [(3, 1), (3, 2), (3, 3), (27, 0), (27, 2)] (up2 (up2 (up2 (up2 (up2 J 27 0 u1.1) 27 2 (J 27 2 + 1)) 3 1 x3) 3 2 x6) 3 3 x9) := ag_hvE (J := J) (R := []) (F := [(3, 1), (3, 2), (3, 3), (27, 0), (27, 2)]) (ag_up (Or.inr rfl) (ag_up (Or.inr rfl) (ag_up (Or.inr rfl) (ag_up (Or.inr rfl) (ag_up (Or.inr rfl) ag_rf)))))
      have hIe : I = hv I [] [] I := ag_hvE (J := I) (R := []) (F := []) ag_rf
      have hPe : (hv P [37] [] u1.2.1) = hv P [37] [] (hv P [37] [] u1.2.1) := ag_hvE (J := P) (R := [37]) (F := []) (ag_hv rfl rfl ag_rf)
      have hEe : (up1 E 27 u1.2.2.1) = hv1 E [27] (up1 E 27 u1.2.2.1) := hv1_e (R := [27]) (up1_ag rfl (fun _ _ => rfl))
      have hWr : WB g A s.heap H locs (hv J [] [(3, 1), (3, 2), (3, 3), (27, 0), (27, 2)] (up2 (up2 (up2 (up2 (up2 J 27 0 u1.1) 27 2 (J 27 2 + 1)) 3 1 x3) 3 2 x6) 3 3 x9), L, hv I [] [] I, hv P [37] [] (hv P [37] [] u1.2.1), hv1 E [27] (up1 E 27 u1.2.2.1), u1.2.2.2.1) (sgX g ++ u1.2.2.2.2) := by
        rw [← hJe, ← hIe, ← hPe, ← hEe]; exact hW
      have hwr : WXF g (hv J [] [(3, 1), (3, 2), (3, 3), (27, 0), (27, 2)] (up2 (up2 (up2 (up2 (up2 J 27 0 u1.1) 27 2 (J 27 2 + 1)) 3 1 x3) 3 2 x6) 3 3 x9)) (hv P [37] [] (hv P [37] [] u1.2.1)) (hv1 E [27] (up1 E 27 u1.2.2.1)) u1.2.2.2.1 u1.2.2.2.2 := by
        rw [← hJe, ← hPe, ← hEe]; exact hwf
      refine W.widen (k := 5) (n := 20050) (Nat.le_of_ble_eq_true rfl) (Nat.le_of_ble_eq_true rfl) ?_
      exact end_v C hr hlocks ((up2 (up2 (up2 (up2 (up2 J 27 0 u1.1) 27 2 (J 27 2 + 1)) 3 1 x3) 3 2 x6) 3 3 x9), I, (hv P [37] [] u1.2.1), (up1 E 27 u1.2.2.1), u1.2.2.2.1, u1.2.2.2.2) hWr ⟨hwr, fun x hx => hG1.1 x ((fun x hx => hx) x hx), show (x3).toInt = (I 9 1 a0).toInt + 1 from by first | omega | assumption, show (J 27 2 + 1).toInt = (J 27 2).toInt + 1 from by first | omega | assumption⟩ dX2_goBy_74
    · have c8 : x7.toInt = 4 := teq rfl kp4 c8
      refine lv_iconst (v := 1) hx hb dX2_goBy_65 (by decide) ?_
      refine lv_goto (tgt := 70) hx hb dX2_goBy_66 (by decide) ?_
      refine lv_iadd hx hb dX2_goBy_70 ?_
      refine lv_topi (fun x10 (e10 : x10 = (J 3 3) + 1) => ?_)
      refine rp_3_3 C hW (mx_ rfl) tw_281 dX2_goBy_71 (fun H locs hW => ?_)
      have hJe : (up2 (up2 (up2 (up2 (up2 J 27 0 u1.1) 27 2 (J 27 2 + 1)) 3 1 x3) 3 2 x6) 3 3 x10) = hv J [] [(3, 1), (3, 2), (3, 3), (27, 0), (27, 2)] (up2 (up2 (up2 (up2 (up2 J 27 0 u1.1) 27 2 (J 27 2 + 1)) 3 1 x3) 3 2 x6) 3 3 x10) := ag_hvE (J := J) (R := []) (F := [(3, 1), (3, 2), (3, 3), (27, 0), (27, 2)]) (ag_up (Or.inr rfl) (ag_up (Or.inr rfl) (ag_up (Or.inr rfl) (ag_up (Or.inr rfl) (ag_up (Or.inr rfl) ag_rf)))))
      have hIe : I = hv I [] [] I := ag_hvE (J := I) (R := []) (F := []) ag_rf
      have hPe : (hv P [37] [] u1.2.1) = hv P [37] [] (hv P [37] [] u1.2.1) := ag_hvE (J := P) (R := [37]) (F := []) (ag_hv rfl rfl ag_rf)
      have hEe : (up1 E 27 u1.2.2.1) = hv1 E [27] (up1 E 27 u1.2.2.1) := hv1_e (R := [27]) (up1_ag rfl (fun _ _ => rfl))
      have hWr : WB g A s.heap H locs (hv J [] [(3, 1), (3, 2), (3, 3), (27, 0), (27, 2)] (up2 (up2 (up2 (up2 (up2 J 27 0 u1.1) 27 2 (J 27 2 + 1)) 3 1 x3) 3 2 x6) 3 3 x10), L, hv I [] [] I, hv P [37] [] (hv P [37] [] u1.2.1), hv1 E [27] (up1 E 27 u1.2.2.1), u1.2.2.2.1) (sgX g ++ u1.2.2.2.2) := by
        rw [← hJe, ← hIe, ← hPe, ← hEe]; exact hW
      have hwr : WXF g (hv J [] [(3, 1), (3, 2), (3, 3), (27, 0), (27, 2)] (up2 (up2 (up2 (up2 (up2 J 27 0 u1.1) 27 2 (J 27 2 + 1)) 3 1 x3) 3 2 x6) 3 3 x10)) (hv P [37] [] (hv P [37] [] u1.2.1)) (hv1 E [27] (up1 E 27 u1.2.2.1)) u1.2.2.2.1 u1.2.2.2.2 := by
        rw [← hJe, ← hPe, ← hEe]; exact hwf
      refine W.widen (k := 5) (n := 20050) (Nat.le_of_ble_eq_true rfl) (Nat.le_of_ble_eq_true rfl) ?_
      exact end_v C hr hlocks ((up2 (up2 (up2 (up2 (up2 J 27 0 u1.1) 27 2 (J 27 2 + 1)) 3 1 x3) 3 2 x6) 3 3 x10), I, (hv P [37] [] u1.2.1), (up1 E 27 u1.2.2.1), u1.2.2.2.1, u1.2.2.2.2) hWr ⟨hwr, fun x hx => hG1.1 x ((fun x hx => hx) x hx), show (x3).toInt = (I 9 1 a0).toInt + 1 from by first | omega | assumption, show (J 27 2 + 1).toInt = (J 27 2).toInt + 1 from by first | omega | assumption⟩ dX2_goBy_74
  · have c5 : x4.toInt = 6 := teq rfl kp6 c5
    refine lv_aload_n hx hb dX2_goBy_33 rfl (lv_at hl 1 rfl) ?_
    refine rg_9_1 C hW (List.mem_append_right _ (hG1.1 _ hm0)) tw_424 dX2_goBy_34 ?_
    refine lv_topi (fun x11 (e11 : x11 = I 9 1 a0) => ?_)
    have t11 : x11.toInt = (I 9 1 a0).toInt := by rw [e11]
    refine lv_aload_n hx hb dX2_goBy_37 rfl (lv_at hl 1 rfl) ?_
    refine rg_9_0 C hW (List.mem_append_right _ (hG1.1 _ hm0)) tw_422 dX2_goBy_38 ?_
    refine lv_topi (fun x12 (e12 : x12 = I 9 0 a0) => ?_)
    have t12 : x12.toInt = (I 9 0 a0).toInt := by rw [e12]
    refine lv_isub hx hb dX2_goBy_41 ?_
    refine lv_topi (fun x13 (e13 : x13 = x11 - x12) => ?_)
    refine lv_iconst (v := 1) hx hb dX2_goBy_42 (by decide) ?_
    refine lv_iadd hx hb dX2_goBy_43 ?_
    refine lv_topi (fun x14 (e14 : x14 = x13 + 1) => ?_)
    refine lv_goto (tgt := 48) hx hb dX2_goBy_44 (by decide) ?_
    refine lv_iadd hx hb dX2_goBy_48 ?_
    refine lv_topi (fun x15 (e15 : x15 = (J 3 2) + x14) => ?_)
    refine rp_3_2 C hW (mx_ rfl) tw_279 dX2_goBy_49 (fun H locs hW => ?_)
    refine lv_aload_n hx hb dX2_goBy_52 rfl (lv_at hl 0 rfl) ?_
    refine lv_dup hx hb dX2_goBy_53 rfl ?_
    refine rg_3_3 C hW (mx_ rfl) tw_281 dX2_goBy_54 ?_
    refine lv_as (J 3 3) rfl ?_
    refine lv_aload_n hx hb dX2_goBy_57 rfl (lv_at hl 1 rfl) ?_
    refine rg_9_2 C hW (List.mem_append_right _ (hG1.1 _ hm0)) tw_427 dX2_goBy_58 ?_
    refine lv_topi (fun x16 (e16 : x16 = I 9 2 a0) => ?_)
    have t16 : x16.toInt = (I 9 2 a0).toInt := by rw [e16]
    refine lv_iconst (v := 4) hx hb dX2_goBy_61 (by decide) ?_
    refine lv_icmp_ne (tgt := 69) hx hb dX2_goBy_62 (by decide) (fun c17 => ?_) (fun c17 => ?_)
    · have c17 : ¬ x16.toInt = 4 := tne rfl kp4 c17
      refine lv_iconst (v := 0) hx hb dX2_goBy_69 (by decide) ?_
      refine lv_iadd hx hb dX2_goBy_70 ?_
      refine lv_topi (fun x18 (e18 : x18 = (J 3 3) + 0) => ?_)
      refine rp_3_3 C hW (mx_ rfl) tw_281 dX2_goBy_71 (fun H locs hW => ?_)
      have hJe : (up2 (up2 (up2 (up2 (up2 J 27 0 u1.1) 27 2 (J 27 2 + 1)) 3 1 x3) 3 2 x15) 3 3 x18) = hv J [] [(3, 1), (3, 2), (3, 3), (27, 0), (27, 2)] (up2 (up2 (up2 (up2 (up2 J 27 0 u1.1) 27 2 (J 27 2 + 1)) 3 1 x3) 3 2 x15) 3 3 x18) := ag_hvE (J := J) (R := []) (F := [(3, 1), (3, 2), (3, 3), (27, 0), (27, 2)]) (ag_up (Or.inr rfl) (ag_up (Or.inr rfl) (ag_up (Or.inr rfl) (ag_up (Or.inr rfl) (ag_up (Or.inr rfl) ag_rf)))))
      have hIe : I = hv I [] [] I := ag_hvE (J := I) (R := []) (F := []) ag_rf
      have hPe : (hv P [37] [] u1.2.1) = hv P [37] [] (hv P [37] [] u1.2.1) := ag_hvE (J := P) (R := [37]) (F := []) (ag_hv rfl rfl ag_rf)
      have hEe : (up1 E 27 u1.2.2.1) = hv1 E [27] (up1 E 27 u1.2.2.1) := hv1_e (R := [27]) (up1_ag rfl (fun _ _ => rfl))
      have hWr : WB g A s.heap H locs (hv J [] [(3, 1), (3, 2), (3, 3), (27, 0), (27, 2)] (up2 (up2 (up2 (up2 (up2 J 27 0 u1.1) 27 2 (J 27 2 + 1)) 3 1 x3) 3 2 x15) 3 3 x18), L, hv I [] [] I, hv P [37] [] (hv P [37] [] u1.2.1), hv1 E [27] (up1 E 27 u1.2.2.1), u1.2.2.2.1) (sgX g ++ u1.2.2.2.2) := by
        rw [← hJe, ← hIe, ← hPe, ← hEe]; exact hW
      have hwr : WXF g (hv J [] [(3, 1), (3, 2), (3, 3), (27, 0), (27, 2)] (up2 (up2 (up2 (up2 (up2 J 27 0 u1.1) 27 2 (J 27 2 + 1)) 3 1 x3) 3 2 x15) 3 3 x18)) (hv P [37] [] (hv P [37] [] u1.2.1)) (hv1 E [27] (up1 E 27 u1.2.2.1)) u1.2.2.2.1 u1.2.2.2.2 := by
        rw [← hJe, ← hPe, ← hEe]; exact hwf
      refine W.widen (k := 5) (n := 20050) (Nat.le_of_ble_eq_true rfl) (Nat.le_of_ble_eq_true rfl) ?_
      exact end_v C hr hlocks ((up2 (up2 (up2 (up2 (up2 J 27 0 u1.1) 27 2 (J 27 2 + 1)) 3 1 x3) 3 2 x15) 3 3 x18), I, (hv P [37] [] u1.2.1), (up1 E 27 u1.2.2.1), u1.2.2.2.1, u1.2.2.2.2) hWr ⟨hwr, fun x hx => hG1.1 x ((fun x hx => hx) x hx), show (x3).toInt = (I 9 1 a0).toInt + 1 from by first | omega | assumption, show (J 27 2 + 1).toInt = (J 27 2).toInt + 1 from by first | omega | assumption⟩ dX2_goBy_74
    · have c17 : x16.toInt = 4 := teq rfl kp4 c17
      refine lv_iconst (v := 1) hx hb dX2_goBy_65 (by decide) ?_
      refine lv_goto (tgt := 70) hx hb dX2_goBy_66 (by decide) ?_
      refine lv_iadd hx hb dX2_goBy_70 ?_
      refine lv_topi (fun x19 (e19 : x19 = (J 3 3) + 1) => ?_)
      refine rp_3_3 C hW (mx_ rfl) tw_281 dX2_goBy_71 (fun H locs hW => ?_)
      have hJe : (up2 (up2 (up2 (up2 (up2 J 27 0 u1.1) 27 2 (J 27 2 + 1)) 3 1 x3) 3 2 x15) 3 3 x19) = hv J [] [(3, 1), (3, 2), (3, 3), (27, 0), (27, 2)] (up2 (up2 (up2 (up2 (up2 J 27 0 u1.1) 27 2 (J 27 2 + 1)) 3 1 x3) 3 2 x15) 3 3 x19) := ag_hvE (J := J) (R := []) (F := [(3, 1), (3, 2), (3, 3), (27, 0), (27, 2)]) (ag_up (Or.inr rfl) (ag_up (Or.inr rfl) (ag_up (Or.inr rfl) (ag_up (Or.inr rfl) (ag_up (Or.inr rfl) ag_rf)))))
      have hIe : I = hv I [] [] I := ag_hvE (J := I) (R := []) (F := []) ag_rf
      have hPe : (hv P [37] [] u1.2.1) = hv P [37] [] (hv P [37] [] u1.2.1) := ag_hvE (J := P) (R := [37]) (F := []) (ag_hv rfl rfl ag_rf)
      have hEe : (up1 E 27 u1.2.2.1) = hv1 E [27] (up1 E 27 u1.2.2.1) := hv1_e (R := [27]) (up1_ag rfl (fun _ _ => rfl))
      have hWr : WB g A s.heap H locs (hv J [] [(3, 1), (3, 2), (3, 3), (27, 0), (27, 2)] (up2 (up2 (up2 (up2 (up2 J 27 0 u1.1) 27 2 (J 27 2 + 1)) 3 1 x3) 3 2 x15) 3 3 x19), L, hv I [] [] I, hv P [37] [] (hv P [37] [] u1.2.1), hv1 E [27] (up1 E 27 u1.2.2.1), u1.2.2.2.1) (sgX g ++ u1.2.2.2.2) := by
        rw [← hJe, ← hIe, ← hPe, ← hEe]; exact hW
      have hwr : WXF g (hv J [] [(3, 1), (3, 2), (3, 3), (27, 0), (27, 2)] (up2 (up2 (up2 (up2 (up2 J 27 0 u1.1) 27 2 (J 27 2 + 1)) 3 1 x3) 3 2 x15) 3 3 x19)) (hv P [37] [] (hv P [37] [] u1.2.1)) (hv1 E [27] (up1 E 27 u1.2.2.1)) u1.2.2.2.1 u1.2.2.2.2 := by
        rw [← hJe, ← hPe, ← hEe]; exact hwf
      refine W.widen (k := 5) (n := 20050) (Nat.le_of_ble_eq_true rfl) (Nat.le_of_ble_eq_true rfl) ?_
      exact end_v C hr hlocks ((up2 (up2 (up2 (up2 (up2 J 27 0 u1.1) 27 2 (J 27 2 + 1)) 3 1 x3) 3 2 x15) 3 3 x19), I, (hv P [37] [] u1.2.1), (up1 E 27 u1.2.2.1), u1.2.2.2.1, u1.2.2.2.2) hWr ⟨hwr, fun x hx => hG1.1 x ((fun x hx => hx) x hx), show (x3).toInt = (I 9 1 a0).toInt + 1 from by first | omega | assumption, show (J 27 2 + 1).toInt = (J 27 2).toInt + 1 from by first | omega | assumption⟩ dX2_goBy_74

set_option maxHeartbeats 4000000 in
set_option maxRecDepth 100000 in
theorem c_X6_readIn (l : Launch) (g : gG) (J : Nat → Nat → Int32) (L : Nat → Nat → Int64) (I : Nat → Nat → Nat → Int32) (P : Nat → Nat → Nat → Option Nat) (E : Nat → Option Nat) (N : Nat → Nat) (dy : List (Nat × Nat)) (sz : Nat) (o : Nat) (hmo : (7, o) ∈ dy) (a0 : Int32) (hwf : WXF g J P E N dy) : Met l yX6_readIn (WS yX6_readIn cX6_readIn 2 none) (RM (1) 0 0) (PC g [.ref o, .int a0] ((J, L, I, P, E, N), sgX g ++ dy) sz) (va_Qv (fun (u : (Nat → Nat → Nat → Int32)) => True) (fun u t => at_ g (FR g ((J, L, I, P, E, N), sgX g ++ dy) sz) ((J, L, (hv I [] [(7, 1), (7, 2)] u), P, E, N), sgX g ++ dy) t) (FR g ((J, L, I, P, E, N), sgX g ++ dy) sz)) 0 0 (FR g ((J, L, I, P, E, N), sgX g ++ dy) sz) := by
  refine ent (by decide +kernel) (Nat.le_of_ble_eq_true rfl) ?_
  intro p e s m below meth c ls hsz C hW hr hlocks hname hl
  generalize FR g ((J, L, I, P, E, N), sgX g ++ dy) sz = A at C hW ⊢
  have hx := C.1.1
  have hb := C.1.2.1
  have hts := C.1.2.2.2.2
  have hl : lv_has ls 2 [(0, .ref o), (1, .int a0)] := hl
  obtain ⟨H, hH⟩ : ∃ H : Heap, H = s.heap := ⟨_, rfl⟩
  obtain ⟨locs, hlocs⟩ : ∃ q : List Loc, q = [] := ⟨_, rfl⟩
  have hW : WB g A s.heap H locs (J, L, I, P, E, N) (sgX g ++ dy) := by rw [hH, hlocs]; exact hW
  refine start_ hH hlocs ?_
  refine lv_aload_n hx hb dX6_readIn_0 rfl (lv_at hl 0 rfl) ?_
  refine lv_aload_n hx hb dX6_readIn_1 rfl (lv_at hl 0 rfl) ?_
  refine rg_7_1 C hW (List.mem_append_right _ hmo) tw_597 dX6_readIn_2 ?_
  refine lv_topi (fun x1 (e1 : x1 = I 7 1 o) => ?_)
  have t1 : x1.toInt = (I 7 1 o).toInt := by rw [e1]
  refine lv_iload_n hx hb dX6_readIn_5 rfl (lv_at hl 1 rfl) ?_
  refine lv_iconst (v := 1) hx hb dX6_readIn_6 (by decide) ?_
  refine lv_isub hx hb dX6_readIn_7 ?_
  refine lv_topi (fun x2 (e2 : x2 = a0 - 1) => ?_)
  refine lv_icmp_ne (tgt := 20) hx hb dX6_readIn_8 (by decide) (fun c3 => ?_) (fun c3 => ?_)
  · have c3 : ¬ x1.toInt = x2.toInt := tne rfl rfl c3
    refine lv_iconst (v := 1) hx hb dX6_readIn_20 (by decide) ?_
    refine rp_7_2 C hW (List.mem_append_right _ hmo) tw_598 dX6_readIn_21 (fun H locs hW => ?_)
    refine lv_aload_n hx hb dX6_readIn_24 rfl (lv_at hl 0 rfl) ?_
    refine lv_iload_n hx hb dX6_readIn_25 rfl (lv_at hl 1 rfl) ?_
    refine rp_7_1 C hW (List.mem_append_right _ hmo) tw_597 dX6_readIn_26 (fun H locs hW => ?_)
    have hWr : WB g A s.heap H locs (J, L, (hv I [] [(7, 1), (7, 2)] (up3 (up3 I 7 2 o 1) 7 1 o a0)), P, E, N) (sgX g ++ dy) := by
      rw [← ag_hvE (J := I) (R := []) (F := [(7, 1), (7, 2)]) (ag_up3 (Or.inr rfl) (ag_up3 (Or.inr rfl) ag_rf))]
      exact hW
    exact end_v C hr hlocks (up3 (up3 I 7 2 o 1) 7 1 o a0) hWr trivial dX6_readIn_29
  · have c3 : x1.toInt = x2.toInt := teq rfl rfl c3
    refine lv_aload_n hx hb dX6_readIn_11 rfl (lv_at hl 0 rfl) ?_
    refine rg_7_2 C hW (List.mem_append_right _ hmo) tw_598 dX6_readIn_12 ?_
    refine lv_topi (fun x4 (e4 : x4 = I 7 2 o) => ?_)
    have t4 : x4.toInt = (I 7 2 o).toInt := by rw [e4]
    refine lv_iconst (v := 1) hx hb dX6_readIn_15 (by decide) ?_
    refine lv_iadd hx hb dX6_readIn_16 ?_
    refine lv_topi (fun x5 (e5 : x5 = x4 + 1) => ?_)
    refine lv_goto (tgt := 21) hx hb dX6_readIn_17 (by decide) ?_
    refine rp_7_2 C hW (List.mem_append_right _ hmo) tw_598 dX6_readIn_21 (fun H locs hW => ?_)
    refine lv_aload_n hx hb dX6_readIn_24 rfl (lv_at hl 0 rfl) ?_
    refine lv_iload_n hx hb dX6_readIn_25 rfl (lv_at hl 1 rfl) ?_
    refine rp_7_1 C hW (List.mem_append_right _ hmo) tw_597 dX6_readIn_26 (fun H locs hW => ?_)
    have hWr : WB g A s.heap H locs (J, L, (hv I [] [(7, 1), (7, 2)] (up3 (up3 I 7 2 o x5) 7 1 o a0)), P, E, N) (sgX g ++ dy) := by
      rw [← ag_hvE (J := I) (R := []) (F := [(7, 1), (7, 2)]) (ag_up3 (Or.inr rfl) (ag_up3 (Or.inr rfl) ag_rf))]
      exact hW
    exact end_v C hr hlocks (up3 (up3 I 7 2 o x5) 7 1 o a0) hWr trivial dX6_readIn_29

set_option maxHeartbeats 4000000 in
set_option maxRecDepth 100000 in
theorem c_X11_pass (l : Launch) (g : gG) (J : Nat → Nat → Int32) (L : Nat → Nat → Int64) (I : Nat → Nat → Nat → Int32) (P : Nat → Nat → Nat → Option Nat) (E : Nat → Option Nat) (N : Nat → Nat) (dy : List (Nat × Nat)) (sz : Nat) (a0 : Int32) (hwf : WXF g J P E N dy) (hn : 0 ≤ (J 3 1).toInt ∧ (J 3 1).toInt ≤ 9999) (hs : (J 27 2).toInt ≤ (J 3 1).toInt) : Met l yX11_pass (WS yX11_pass cX11_pass 2 (some .int)) (RM (9) 10 20100) (PC g [.ref (g.2.2.1 12), .int a0] ((J, L, I, P, E, N), sgX g ++ dy) sz) (va_Qi (fun (r : Int32) (u : (Nat → Nat → Int32) × (Nat → Nat → Nat → Int32) × (Nat → Nat → Nat → Option Nat) × (Nat → Option Nat) × (Nat → Nat) × List (Nat × Nat)) => WXF g (hv J [42] [(3, 1), (3, 2), (3, 3), (27, 0), (27, 2)] u.1) (hv P [9, 37] [] u.2.2.1) (hv1 E [27] u.2.2.2.1) u.2.2.2.2.1 u.2.2.2.2.2 ∧ (∀ x ∈ dy, x ∈ u.2.2.2.2.2) ∧ (0 ≤ (u.1 3 1).toInt ∧ (u.1 3 1).toInt ≤ 9999 ∧ (u.1 27 2).toInt ≤ (u.1 3 1).toInt)) (fun u t => at_ g (FR g ((J, L, I, P, E, N), sgX g ++ dy) sz) ((((hv J [42] [(3, 1), (3, 2), (3, 3), (27, 0), (27, 2)] u.1), L, (hv I [9] [] u.2.1), (hv P [9, 37] [] u.2.2.1), (hv1 E [27] u.2.2.2.1), u.2.2.2.2.1), sgX g ++ u.2.2.2.2.2)) t) (FR g ((J, L, I, P, E, N), sgX g ++ dy) sz)) 10 20100 (FR g ((J, L, I, P, E, N), sgX g ++ dy) sz) := by
  refine ent (by decide +kernel) (Nat.le_of_ble_eq_true rfl) ?_
  intro p e s m below meth c ls hsz C hW hr hlocks hname hl
  generalize FR g ((J, L, I, P, E, N), sgX g ++ dy) sz = A at C hW ⊢
  have hx := C.1.1
  have hb := C.1.2.1
  have hts := C.1.2.2.2.2
  have hl : lv_has ls 2 [(0, .ref (g.2.2.1 12)), (1, .int a0)] := hl
  obtain ⟨H, hH⟩ : ∃ H : Heap, H = s.heap := ⟨_, rfl⟩
  obtain ⟨locs, hlocs⟩ : ∃ q : List Loc, q = [] := ⟨_, rfl⟩
  have hW : WB g A s.heap H locs (J, L, I, P, E, N) (sgX g ++ dy) := by rw [hH, hlocs]; exact hW
  refine start_ hH hlocs ?_
  refine lv_iload_n hx hb dX11_pass_0 rfl (lv_at hl 1 rfl) ?_
  refine lv_iconst (v := 1) hx hb dX11_pass_1 (by decide) ?_
  refine lv_icmp_ge (tgt := 12) hx hb dX11_pass_2 (by decide) (fun c1 => ?_) (fun c1 => ?_)
  · have c1 : 1 ≤ a0.toInt := tle kp1 rfl c1
    refine lv_iload_n hx hb dX11_pass_12 rfl (lv_at hl 1 rfl) ?_
    refine lv_sipush (v := 9999) hx hb dX11_pass_13 (by decide) ?_
    refine lv_aload_n hx hb dX11_pass_16 rfl (lv_at hl 0 rfl) ?_
    refine rg_12_1 C hW (mx_ rfl) tw_365 dX11_pass_17 ?_
    refine rg_3_1 C hW (mx_ rfl) tw_278 dX11_pass_20 ?_
    refine lv_isub hx hb dX11_pass_23 ?_
    refine lv_topi (fun x2 (e2 : x2 = 9999 - (J 3 1)) => ?_)
    try have t2 : x2.toInt = 9999 - (J 3 1).toInt := tsub e2 kp9999 rfl (by omega)
    refine lv_icmp_le (tgt := 34) hx hb dX11_pass_24 (by decide) (fun c3 => ?_) (fun c3 => ?_)
    · have c3 : a0.toInt ≤ x2.toInt := tle rfl rfl c3
      refine lv_aload_n hx hb dX11_pass_34 rfl (lv_at hl 0 rfl) ?_
      refine rg_12_1 C hW (mx_ rfl) tw_365 dX11_pass_35 ?_
      refine g_new (r := 9) (S' := fun q => (J, L, clr I 9 q 0, clr P 9 q none, E, N)) (ci := 9) (fs := [.int 0, .int 0, .int 0, .int 0, .int 0, .int 0, .int 0]) C hW rfl rfl in_X8 tyX8 tyX8_ok tw_415 tw_416 tw_81 (fun j hj => by rcases (show j = 0 ∨ j = 1 ∨ j = 2 ∨ j = 3 ∨ j = 4 ∨ j = 5 ∨ j = 6 by omega) with rfl | rfl | rfl | rfl | rfl | rfl | rfl <;> rfl) (fun q => by simp only [cel, celc, clr_s] <;> rfl) (fun q r' a h => cel_clr 9 q r' a h) ⟨Nat.le_of_ble_eq_true rfl, Nat.le_of_ble_eq_true rfl⟩ dX11_pass_38 (fun q4 H hfr4 hW => ?_)
      rw [List.append_assoc] at hW
      have hW : WB g A s.heap H locs (J, L, (clr I 9 q4 0), (clr P 9 q4 none), E, N) (sgX g ++ (dy ++ [(9, q4)])) := hW
      refine lv_dup hx hb dX11_pass_41 rfl ?_
      refine lv_aload_n hx hb dX11_pass_42 rfl (lv_at hl 0 rfl) ?_
      refine rg_12_1 C hW (mx_ rfl) tw_365 dX11_pass_43 ?_
      refine rg_3_1 C hW (mx_ rfl) tw_278 dX11_pass_46 ?_
      refine lv_iload_n hx hb dX11_pass_49 rfl (lv_at hl 1 rfl) ?_
      refine lv_bipush (v := 6) hx hb dX11_pass_50 (by decide) ?_
      refine lv_aload_n hx hb dX11_pass_52 rfl (lv_at hl 0 rfl) ?_
      refine rg_12_0 C hW (mx_ rfl) tw_364 dX11_pass_53 ?_
      refine rg_4_4 C hW (mx_ rfl) tw_240 dX11_pass_56 ?_
      refine cv_ C hW (runI (x := q4) (As := [.int (J 3 1), .int a0, .int 6, .int (J 4 4)]) (rest := [.ref q4, .ref (g.2.2.1 3)]) (T := ((J, L, (clr I 9 q4 0), (clr P 9 q4 none), E, N), sgX g ++ (dy ++ [(9, q4)]))) C hW (c_X8_init l g J L (clr I 9 q4 0) (clr P 9 q4 none) E N (dy ++ [(9, q4)]) H.size q4 (List.mem_append_right _ (List.mem_singleton.mpr rfl)) (J 3 1) a0 6 (J 4 4) (show 0 ≤ (J 3 1).toInt ∧ (J 3 1).toInt ≤ 9999 ∧ 0 ≤ a0.toInt ∧ a0.toInt ≤ 9999 from by (try simp only [kp6]); omega)) mi_X8_init tw_417 ⟨rfl, rfl, Nat.le_of_ble_eq_true rfl, Nat.le_of_ble_eq_true rfl⟩ rfl hl.1 rfl (Nat.le_of_ble_eq_true rfl) dX11_pass_59 ⟨Nat.le_of_ble_eq_true rfl, Nat.le_of_ble_eq_true rfl⟩) (fun u5 H locs hp5 hW => ?_)
      have hW : WB g A s.heap H locs (J, L, (up3 (up3 (up3 (up3 (up3 (up3 (clr I 9 q4 0) 9 4 q4 (-9)) 9 6 q4 (-9)) 9 0 q4 (J 3 1)) 9 1 q4 u5) 9 2 q4 6) 9 3 q4 (J 4 4)), (clr P 9 q4 none), E, N) (sgX g ++ (dy ++ [(9, q4)])) := hW
      have hfc5 : ((u5).toInt = (J 3 1).toInt + a0.toInt - 1) := hp5
      have hwf : WXF g J (clr P 9 q4 none) E N (dy ++ [(9, q4)]) := wxf_new (J := J) hwf (fun x hx => hfr4 x (List.mem_append_right _ hx)) (fun r f a h => clr_o _ _ _ h _ _) (fun _ _ => rfl) ⟨fun h => absurd h (by decide), fun h => absurd h (by decide), fun h => absurd h (by decide), fun h => absurd h (by decide)⟩
      have hi6 : (up3 (up3 (up3 (up3 (up3 (up3 (clr I 9 q4 0) 9 4 q4 (-9)) 9 6 q4 (-9)) 9 0 q4 (J 3 1)) 9 1 q4 u5) 9 2 q4 6) 9 3 q4 (J 4 4)) 9 1 q4 = u5 := (show (up3 (up3 (up3 (up3 (clr I 9 q4 0) 9 4 q4 (-9)) 9 6 q4 (-9)) 9 0 q4 (J 3 1)) 9 1 q4 u5) 9 1 q4 = _ from up3_s _ _ _ _ _)
      refine cv_ C hW (runV (x := (g.2.2.1 3)) (As := [.ref q4]) (rest := []) (T := ((J, L, (up3 (up3 (up3 (up3 (up3 (up3 (clr I 9 q4 0) 9 4 q4 (-9)) 9 6 q4 (-9)) 9 0 q4 (J 3 1)) 9 1 q4 u5) 9 2 q4 6) 9 3 q4 (J 4 4)), (clr P 9 q4 none), E, N), sgX g ++ (dy ++ [(9, q4)]))) C hW (c_X2_goBy l g J L (up3 (up3 (up3 (up3 (up3 (up3 (clr I 9 q4 0) 9 4 q4 (-9)) 9 6 q4 (-9)) 9 0 q4 (J 3 1)) 9 1 q4 u5) 9 2 q4 6) 9 3 q4 (J 4 4)) (clr P 9 q4 none) E N (dy ++ [(9, q4)]) H.size q4 (List.mem_append_right _ (List.mem_singleton.mpr rfl)) hwf (show 0 ≤ (((up3 (up3 (up3 (up3 (up3 (up3 (clr I 9 q4 0) 9 4 q4 (-9)) 9 6 q4 (-9)) 9 0 q4 (J 3 1)) 9 1 q4 u5) 9 2 q4 6) 9 3 q4 (J 4 4)) 9 1 q4)).toInt ∧ (((up3 (up3 (up3 (up3 (up3 (up3 (clr I 9 q4 0) 9 4 q4 (-9)) 9 6 q4 (-9)) 9 0 q4 (J 3 1)) 9 1 q4 u5) 9 2 q4 6) 9 3 q4 (J 4 4)) 9 1 q4)).toInt ≤ 9998 from by rw [hi6]; omega) (show (J 27 2).toInt ≤ 9999 from by omega)) mi_X2_goBy tw_454 (recv_ (T := ((J, L, (up3 (up3 (up3 (up3 (up3 (up3 (clr I 9 q4 0) 9 4 q4 (-9)) 9 6 q4 (-9)) 9 0 q4 (J 3 1)) 9 1 q4 u5) 9 2 q4 6) 9 3 q4 (J 4 4)), (clr P 9 q4 none), E, N), sgX g ++ (dy ++ [(9, q4)]))) C hW (mx_ rfl) rfl rfl) ⟨rfl, rfl, Nat.le_of_ble_eq_true rfl, Nat.le_of_ble_eq_true rfl⟩ rfl hl.1 rfl (Nat.le_of_ble_eq_true rfl) dX11_pass_62 ⟨Nat.le_of_ble_eq_true rfl, Nat.le_of_ble_eq_true rfl⟩) (fun u7 H locs hp7 hW => ?_)
      have hW : WB g A s.heap H locs ((hv J [] [(3, 1), (3, 2), (3, 3), (27, 0), (27, 2)] u7.1), L, (hv (up3 (up3 (up3 (up3 (up3 (up3 (clr I 9 q4 0) 9 4 q4 (-9)) 9 6 q4 (-9)) 9 0 q4 (J 3 1)) 9 1 q4 u5) 9 2 q4 6) 9 3 q4 (J 4 4)) [] [] u7.2.1), (hv (clr P 9 q4 none) [37] [] u7.2.2.1), (hv1 E [27] u7.2.2.2.1), u7.2.2.2.2.1) (sgX g ++ u7.2.2.2.2.2) := hW
      obtain ⟨hwf, hd7, hf7_0, hf7_1⟩ : WXF g (hv J [] [(3, 1), (3, 2), (3, 3), (27, 0), (27, 2)] u7.1) (hv (clr P 9 q4 none) [37] [] u7.2.2.1) (hv1 E [27] u7.2.2.2.1) u7.2.2.2.2.1 u7.2.2.2.2.2 ∧ (∀ x ∈ (dy ++ [(9, q4)]), x ∈ u7.2.2.2.2.2) ∧ ((u7.1 3 1).toInt = (((up3 (up3 (up3 (up3 (up3 (up3 (clr I 9 q4 0) 9 4 q4 (-9)) 9 6 q4 (-9)) 9 0 q4 (J 3 1)) 9 1 q4 u5) 9 2 q4 6) 9 3 q4 (J 4 4)) 9 1 q4)).toInt + 1) ∧ ((u7.1 27 2).toInt = (J 27 2).toInt + 1) := hp7
      rw [hi6] at hf7_0
      refine lv_aload_n hx hb dX11_pass_65 rfl (lv_at hl 0 rfl) ?_
      refine rg_12_1 C hW (mx_ rfl) tw_365 dX11_pass_66 ?_
      refine rg_3_1 C hW (mx_ rfl) tw_278 dX11_pass_69 ?_
      refine lv_topi (fun x8 (e8 : x8 = u7.1 3 1) => ?_)
      have t8 : x8.toInt = (u7.1 3 1).toInt := by rw [e8]
      have hJe : (hv J [] [(3, 1), (3, 2), (3, 3), (27, 0), (27, 2)] u7.1) = hv J [42] [(3, 1), (3, 2), (3, 3), (27, 0), (27, 2)] (hv J [] [(3, 1), (3, 2), (3, 3), (27, 0), (27, 2)] u7.1) := ag_hvE (J := J) (R := [42]) (F := [(3, 1), (3, 2), (3, 3), (27, 0), (27, 2)]) (ag_hv rfl rfl ag_rf)
      have hIe : (hv (up3 (up3 (up3 (up3 (up3 (up3 (clr I 9 q4 0) 9 4 q4 (-9)) 9 6 q4 (-9)) 9 0 q4 (J 3 1)) 9 1 q4 u5) 9 2 q4 6) 9 3 q4 (J 4 4)) [] [] u7.2.1) = hv I [9] [] (hv (up3 (up3 (up3 (up3 (up3 (up3 (clr I 9 q4 0) 9 4 q4 (-9)) 9 6 q4 (-9)) 9 0 q4 (J 3 1)) 9 1 q4 u5) 9 2 q4 6) 9 3 q4 (J 4 4)) [] [] u7.2.1) := ag_hvE (J := I) (R := [9]) (F := []) (ag_hv rfl rfl (ag_up3 (Or.inl rfl) (ag_up3 (Or.inl rfl) (ag_up3 (Or.inl rfl) (ag_up3 (Or.inl rfl) (ag_up3 (Or.inl rfl) (ag_up3 (Or.inl rfl) (ag_clr rfl ag_rf))))))))
      have hPe : (hv (clr P 9 q4 none) [37] [] u7.2.2.1) = hv P [9, 37] [] (hv (clr P 9 q4 none) [37] [] u7.2.2.1) := ag_hvE (J := P) (R := [9, 37]) (F := []) (ag_hv rfl rfl (ag_clr rfl ag_rf))
      have hEe : (hv1 E [27] u7.2.2.2.1) = hv1 E [27] (hv1 E [27] u7.2.2.2.1) := hv1_e (R := [27]) (hv1_ag rfl (fun _ _ => rfl))
      have hWr : WB g A s.heap H locs (hv J [42] [(3, 1), (3, 2), (3, 3), (27, 0), (27, 2)] (hv J [] [(3, 1), (3, 2), (3, 3), (27, 0), (27, 2)] u7.1), L, hv I [9] [] (hv (up3 (up3 (up3 (up3 (up3 (up3 (clr I 9 q4 0) 9 4 q4 (-9)) 9 6 q4 (-9)) 9 0 q4 (J 3 1)) 9 1 q4 u5) 9 2 q4 6) 9 3 q4 (J 4 4)) [] [] u7.2.1), hv P [9, 37] [] (hv (clr P 9 q4 none) [37] [] u7.2.2.1), hv1 E [27] (hv1 E [27] u7.2.2.2.1), u7.2.2.2.2.1) (sgX g ++ u7.2.2.2.2.2) := by
        rw [← hJe, ← hIe, ← hPe, ← hEe]; exact hW
      have hwr : WXF g (hv J [42] [(3, 1), (3, 2), (3, 3), (27, 0), (27, 2)] (hv J [] [(3, 1), (3, 2), (3, 3), (27, 0), (27, 2)] u7.1)) (hv P [9, 37] [] (hv (clr P 9 q4 none) [37] [] u7.2.2.1)) (hv1 E [27] (hv1 E [27] u7.2.2.2.1)) u7.2.2.2.2.1 u7.2.2.2.2.2 := by
        rw [← hJe, ← hPe, ← hEe]; exact hwf
      refine W.widen (k := 10) (n := 20100) (Nat.le_of_ble_eq_true rfl) (Nat.le_of_ble_eq_true rfl) ?_
      exact end_i C hr hlocks ((hv J [] [(3, 1), (3, 2), (3, 3), (27, 0), (27, 2)] u7.1), (hv (up3 (up3 (up3 (up3 (up3 (up3 (clr I 9 q4 0) 9 4 q4 (-9)) 9 6 q4 (-9)) 9 0 q4 (J 3 1)) 9 1 q4 u5) 9 2 q4 6) 9 3 q4 (J 4 4)) [] [] u7.2.1), (hv (clr P 9 q4 none) [37] [] u7.2.2.1), (hv1 E [27] u7.2.2.2.1), u7.2.2.2.2.1, u7.2.2.2.2.2) hWr ⟨hwr, fun x hx => hd7 x ((fun x hx => List.mem_append_left _ ((fun x hx => hx) x hx)) x hx), show 0 ≤ (u7.1 3 1).toInt ∧ (u7.1 3 1).toInt ≤ 9999 ∧ (u7.1 27 2).toInt ≤ (u7.1 3 1).toInt from by first | omega | exact ⟨by omega, by omega, by omega⟩⟩ dX11_pass_72
    · have c3 : x2.toInt < a0.toInt := tnle rfl rfl c3
      refine lv_aload_n hx hb dX11_pass_27 rfl (lv_at hl 0 rfl) ?_
      refine lv_bipush (v := (-6)) hx hb dX11_pass_28 (by decide) ?_
      refine ci_ C hW (runV (x := (g.2.2.1 12)) (As := [.int (-6)]) (rest := []) (T := ((J, L, I, P, E, N), sgX g ++ dy)) C hW (c_X11_refuse l g J L I P E N dy H.size (-6) hwf) mi_X11_refuse tw_411 (recv_ (T := ((J, L, I, P, E, N), sgX g ++ dy)) C hW (mx_ rfl) rfl rfl) ⟨rfl, rfl, Nat.le_of_ble_eq_true rfl, Nat.le_of_ble_eq_true rfl⟩ rfl hl.1 rfl (Nat.le_of_ble_eq_true rfl) dX11_pass_30 ⟨Nat.le_of_ble_eq_true rfl, Nat.le_of_ble_eq_true rfl⟩) (fun r9 u9 H locs hp9 hW => ?_)
      have hc9 : ((r9 = (-6))) := hp9
      clear hp9
      have hr9 : r9.toInt = (-6) := by rw [hc9]; exact kn6
      have hW : WB g A s.heap H locs ((hv J [42] [] u9), L, I, P, E, N) (sgX g ++ dy) := hW
      have hJe : (hv J [42] [] u9) = hv J [42] [(3, 1), (3, 2), (3, 3), (27, 0), (27, 2)] (hv J [42] [] u9) := ag_hvE (J := J) (R := [42]) (F := [(3, 1), (3, 2), (3, 3), (27, 0), (27, 2)]) (ag_hv rfl rfl ag_rf)
      have hIe : I = hv I [9] [] I := ag_hvE (J := I) (R := [9]) (F := []) ag_rf
      have hPe : P = hv P [9, 37] [] P := ag_hvE (J := P) (R := [9, 37]) (F := []) ag_rf
      have hEe : E = hv1 E [27] E := hv1_e (R := [27]) (fun _ _ => rfl)
      have hWr : WB g A s.heap H locs (hv J [42] [(3, 1), (3, 2), (3, 3), (27, 0), (27, 2)] (hv J [42] [] u9), L, hv I [9] [] I, hv P [9, 37] [] P, hv1 E [27] E, N) (sgX g ++ dy) := by
        rw [← hJe, ← hIe, ← hPe, ← hEe]; exact hW
      have hwr : WXF g (hv J [42] [(3, 1), (3, 2), (3, 3), (27, 0), (27, 2)] (hv J [42] [] u9)) (hv P [9, 37] [] P) (hv1 E [27] E) N dy := by
        rw [← hJe, ← hPe, ← hEe]; exact hwf
      refine W.widen (k := 10) (n := 20100) (Nat.le_of_ble_eq_true rfl) (Nat.le_of_ble_eq_true rfl) ?_
      exact end_i C hr hlocks ((hv J [42] [] u9), I, P, E, N, dy) hWr ⟨hwr, fun x hx => hx, show 0 ≤ (J 3 1).toInt ∧ (J 3 1).toInt ≤ 9999 ∧ (J 27 2).toInt ≤ (J 3 1).toInt from by first | omega | exact ⟨by omega, by omega, by omega⟩⟩ dX11_pass_33
  · have c1 : a0.toInt < 1 := tnle kp1 rfl c1
    refine lv_aload_n hx hb dX11_pass_5 rfl (lv_at hl 0 rfl) ?_
    refine lv_bipush (v := (-4)) hx hb dX11_pass_6 (by decide) ?_
    refine ci_ C hW (runV (x := (g.2.2.1 12)) (As := [.int (-4)]) (rest := []) (T := ((J, L, I, P, E, N), sgX g ++ dy)) C hW (c_X11_refuse l g J L I P E N dy H.size (-4) hwf) mi_X11_refuse tw_411 (recv_ (T := ((J, L, I, P, E, N), sgX g ++ dy)) C hW (mx_ rfl) rfl rfl) ⟨rfl, rfl, Nat.le_of_ble_eq_true rfl, Nat.le_of_ble_eq_true rfl⟩ rfl hl.1 rfl (Nat.le_of_ble_eq_true rfl) dX11_pass_8 ⟨Nat.le_of_ble_eq_true rfl, Nat.le_of_ble_eq_true rfl⟩) (fun r10 u10 H locs hp10 hW => ?_)
    have hc10 : ((r10 = (-4))) := hp10
    clear hp10
    have hr10 : r10.toInt = (-4) := by rw [hc10]; exact kn4
    have hW : WB g A s.heap H locs ((hv J [42] [] u10), L, I, P, E, N) (sgX g ++ dy) := hW
    have hJe : (hv J [42] [] u10) = hv J [42] [(3, 1), (3, 2), (3, 3), (27, 0), (27, 2)] (hv J [42] [] u10) := ag_hvE (J := J) (R := [42]) (F := [(3, 1), (3, 2), (3, 3), (27, 0), (27, 2)]) (ag_hv rfl rfl ag_rf)
    have hIe : I = hv I [9] [] I := ag_hvE (J := I) (R := [9]) (F := []) ag_rf
    have hPe : P = hv P [9, 37] [] P := ag_hvE (J := P) (R := [9, 37]) (F := []) ag_rf
    have hEe : E = hv1 E [27] E := hv1_e (R := [27]) (fun _ _ => rfl)
    have hWr : WB g A s.heap H locs (hv J [42] [(3, 1), (3, 2), (3, 3), (27, 0), (27, 2)] (hv J [42] [] u10), L, hv I [9] [] I, hv P [9, 37] [] P, hv1 E [27] E, N) (sgX g ++ dy) := by
      rw [← hJe, ← hIe, ← hPe, ← hEe]; exact hW
    have hwr : WXF g (hv J [42] [(3, 1), (3, 2), (3, 3), (27, 0), (27, 2)] (hv J [42] [] u10)) (hv P [9, 37] [] P) (hv1 E [27] E) N dy := by
      rw [← hJe, ← hPe, ← hEe]; exact hwf
    refine W.widen (k := 10) (n := 20100) (Nat.le_of_ble_eq_true rfl) (Nat.le_of_ble_eq_true rfl) ?_
    exact end_i C hr hlocks ((hv J [42] [] u10), I, P, E, N, dy) hWr ⟨hwr, fun x hx => hx, show 0 ≤ (J 3 1).toInt ∧ (J 3 1).toInt ≤ 9999 ∧ (J 27 2).toInt ≤ (J 3 1).toInt from by first | omega | exact ⟨by omega, by omega, by omega⟩⟩ dX11_pass_11

set_option maxHeartbeats 4000000 in
set_option maxRecDepth 100000 in
theorem c_X11_stage (l : Launch) (g : gG) (J : Nat → Nat → Int32) (L : Nat → Nat → Int64) (I : Nat → Nat → Nat → Int32) (P : Nat → Nat → Nat → Option Nat) (E : Nat → Option Nat) (N : Nat → Nat) (dy : List (Nat × Nat)) (sz : Nat) (a0 : Int32) (hwf : WXF g J P E N dy) (hn : 0 ≤ (J 3 1).toInt ∧ (J 3 1).toInt ≤ 9999) (hs : (J 27 2).toInt ≤ (J 3 1).toInt) : Met l yX11_stage (WS yX11_stage cX11_stage 5 (some .int)) (RM (9) 10 20100) (PC g [.ref (g.2.2.1 12), .int a0] ((J, L, I, P, E, N), sgX g ++ dy) sz) (va_Qi (fun (r : Int32) (u : (Nat → Nat → Int32) × (Nat → Nat → Nat → Int32) × (Nat → Nat → Nat → Option Nat) × (Nat → Option Nat) × (Nat → Nat) × List (Nat × Nat)) => WXF g (hv J [42] [(3, 1), (3, 2), (3, 3), (27, 0), (27, 2)] u.1) (hv P [9, 37] [] u.2.2.1) (hv1 E [27] u.2.2.2.1) u.2.2.2.2.1 u.2.2.2.2.2 ∧ (∀ x ∈ dy, x ∈ u.2.2.2.2.2) ∧ (0 ≤ (u.1 3 1).toInt ∧ (u.1 3 1).toInt ≤ 9999 ∧ (u.1 27 2).toInt ≤ (u.1 3 1).toInt)) (fun u t => at_ g (FR g ((J, L, I, P, E, N), sgX g ++ dy) sz) ((((hv J [42] [(3, 1), (3, 2), (3, 3), (27, 0), (27, 2)] u.1), L, (hv I [9] [] u.2.1), (hv P [9, 37] [] u.2.2.1), (hv1 E [27] u.2.2.2.1), u.2.2.2.2.1), sgX g ++ u.2.2.2.2.2)) t) (FR g ((J, L, I, P, E, N), sgX g ++ dy) sz)) 10 20100 (FR g ((J, L, I, P, E, N), sgX g ++ dy) sz) := by
  refine ent (by decide +kernel) (Nat.le_of_ble_eq_true rfl) ?_
  intro p e s m below meth c ls hsz C hW hr hlocks hname hl
  generalize FR g ((J, L, I, P, E, N), sgX g ++ dy) sz = A at C hW ⊢
  have hx := C.1.1
  have hb := C.1.2.1
  have hts := C.1.2.2.2.2
  have hl : lv_has ls 5 [(0, .ref (g.2.2.1 12)), (1, .int a0)] := hl
  obtain ⟨H, hH⟩ : ∃ H : Heap, H = s.heap := ⟨_, rfl⟩
  obtain ⟨locs, hlocs⟩ : ∃ q : List Loc, q = [] := ⟨_, rfl⟩
  have hW : WB g A s.heap H locs (J, L, I, P, E, N) (sgX g ++ dy) := by rw [hH, hlocs]; exact hW
  refine start_ hH hlocs ?_
  refine lv_iload_n hx hb dX11_stage_0 rfl (lv_at hl 1 rfl) ?_
  refine ci_ C hW (runS (As := [.int a0]) (rest := []) (T := ((J, L, I, P, E, N), sgX g ++ dy)) C hW (c_X11_voiceRefusal l g J L I P E N dy H.size a0 ) mi_X11_voiceRefusal tw_524 ⟨rfl, rfl, Nat.le_of_ble_eq_true rfl, Nat.le_of_ble_eq_true rfl⟩ rfl hl.1 rfl (Nat.le_of_ble_eq_true rfl) dX11_stage_1 ⟨Nat.le_of_ble_eq_true rfl, Nat.le_of_ble_eq_true rfl⟩) (fun r1 u1 H locs hp1 hW => ?_)
  have hc1 : ((r1.toInt = (-4) ∧ (a0.toInt < 1)) ∨ (r1.toInt = (-6) ∧ (999 < a0.toInt)) ∨ (r1.toInt = 0 ∧ (1 ≤ a0.toInt ∧ a0.toInt ≤ 999))) := hp1
  clear hp1
  have hW : WB g A s.heap H locs (J, L, I, P, E, N) (sgX g ++ dy) := hW
  refine lv_istore_n (lv' := [(2, .int r1), (0, .ref (g.2.2.1 12)), (1, .int a0)]) hx hb dX11_stage_4 rfl hl (by decide) rfl (fun ls hl => ?_)
  refine lv_iload_n hx hb dX11_stage_5 rfl (lv_at hl 0 rfl) ?_
  refine lv_if_eq (tgt := 15) hx hb dX11_stage_6 (by decide) (fun c2 => ?_) (fun c2 => ?_)
  · have c2 : r1.toInt = 0 := teq rfl kp0 c2
    refine lv_aload_n hx hb dX11_stage_15 rfl (lv_at hl 1 rfl) ?_
    refine rg_12_1 C hW (mx_ rfl) tw_365 dX11_stage_16 ?_
    refine rg_3_1 C hW (mx_ rfl) tw_278 dX11_stage_19 ?_
    refine lv_sipush (v := 9999) hx hb dX11_stage_22 (by decide) ?_
    refine lv_icmp_lt (tgt := 35) hx hb dX11_stage_25 (by decide) (fun c3 => ?_) (fun c3 => ?_)
    · have c3 : (J 3 1).toInt < 9999 := tlt rfl kp9999 c3
      refine lv_aload_n hx hb dX11_stage_35 rfl (lv_at hl 1 rfl) ?_
      refine rg_12_1 C hW (mx_ rfl) tw_365 dX11_stage_36 ?_
      refine rg_3_1 C hW (mx_ rfl) tw_278 dX11_stage_39 ?_
      refine lv_istore_n (lv' := [(3, .int (J 3 1)), (2, .int r1), (0, .ref (g.2.2.1 12)), (1, .int a0)]) hx hb dX11_stage_42 rfl hl (by decide) rfl (fun ls hl => ?_)
      refine g_new (r := 9) (S' := fun q => (J, L, clr I 9 q 0, clr P 9 q none, E, N)) (ci := 9) (fs := [.int 0, .int 0, .int 0, .int 0, .int 0, .int 0, .int 0]) C hW rfl rfl in_X8 tyX8 tyX8_ok tw_415 tw_416 tw_81 (fun j hj => by rcases (show j = 0 ∨ j = 1 ∨ j = 2 ∨ j = 3 ∨ j = 4 ∨ j = 5 ∨ j = 6 by omega) with rfl | rfl | rfl | rfl | rfl | rfl | rfl <;> rfl) (fun q => by simp only [cel, celc, clr_s] <;> rfl) (fun q r' a h => cel_clr 9 q r' a h) ⟨Nat.le_of_ble_eq_true rfl, Nat.le_of_ble_eq_true rfl⟩ dX11_stage_43 (fun q4 H hfr4 hW => ?_)
      rw [List.append_assoc] at hW
      have hW : WB g A s.heap H locs (J, L, (clr I 9 q4 0), (clr P 9 q4 none), E, N) (sgX g ++ (dy ++ [(9, q4)])) := hW
      refine lv_dup hx hb dX11_stage_46 rfl ?_
      refine lv_iload_n hx hb dX11_stage_47 rfl (lv_at hl 0 rfl) ?_
      refine lv_iconst (v := 1) hx hb dX11_stage_48 (by decide) ?_
      refine lv_iconst (v := 3) hx hb dX11_stage_49 (by decide) ?_
      refine lv_aload_n hx hb dX11_stage_50 rfl (lv_at hl 2 rfl) ?_
      refine rg_12_0 C hW (mx_ rfl) tw_364 dX11_stage_51 ?_
      refine rg_4_4 C hW (mx_ rfl) tw_240 dX11_stage_54 ?_
      refine cv_ C hW (runI (x := q4) (As := [.int (J 3 1), .int 1, .int 3, .int (J 4 4)]) (rest := [.ref q4]) (T := ((J, L, (clr I 9 q4 0), (clr P 9 q4 none), E, N), sgX g ++ (dy ++ [(9, q4)]))) C hW (c_X8_init l g J L (clr I 9 q4 0) (clr P 9 q4 none) E N (dy ++ [(9, q4)]) H.size q4 (List.mem_append_right _ (List.mem_singleton.mpr rfl)) (J 3 1) 1 3 (J 4 4) (show 0 ≤ (J 3 1).toInt ∧ (J 3 1).toInt ≤ 9999 ∧ 0 ≤ (1 : Int32).toInt ∧ (1 : Int32).toInt ≤ 9999 from by (try simp only [kp1]); omega)) mi_X8_init tw_417 ⟨rfl, rfl, Nat.le_of_ble_eq_true rfl, Nat.le_of_ble_eq_true rfl⟩ rfl hl.1 rfl (Nat.le_of_ble_eq_true rfl) dX11_stage_57 ⟨Nat.le_of_ble_eq_true rfl, Nat.le_of_ble_eq_true rfl⟩) (fun u5 H locs hp5 hW => ?_)
      have hW : WB g A s.heap H locs (J, L, (up3 (up3 (up3 (up3 (up3 (up3 (clr I 9 q4 0) 9 4 q4 (-9)) 9 6 q4 (-9)) 9 0 q4 (J 3 1)) 9 1 q4 u5) 9 2 q4 3) 9 3 q4 (J 4 4)), (clr P 9 q4 none), E, N) (sgX g ++ (dy ++ [(9, q4)])) := hW
      have hfc5 : ((u5).toInt = (J 3 1).toInt + 1 - 1) := hp5
      have hwf : WXF g J (clr P 9 q4 none) E N (dy ++ [(9, q4)]) := wxf_new (J := J) hwf (fun x hx => hfr4 x (List.mem_append_right _ hx)) (fun r f a h => clr_o _ _ _ h _ _) (fun _ _ => rfl) ⟨fun h => absurd h (by decide), fun h => absurd h (by decide), fun h => absurd h (by decide), fun h => absurd h (by decide)⟩
      refine lv_astore (lv' := [(4, .ref q4), (3, .int (J 3 1)), (2, .int r1), (0, .ref (g.2.2.1 12)), (1, .int a0)]) hx hb dX11_stage_60 hl (by decide) rfl (fun ls hl => ?_)
      refine lv_aload hx hb dX11_stage_62 (lv_at hl 0 rfl) ?_
      refine lv_iload_n hx hb dX11_stage_64 rfl (lv_at hl 4 rfl) ?_
      refine rp_9_5 C hW (List.mem_append_right _ (List.mem_append_right _ (List.mem_singleton.mpr rfl))) tw_436 dX11_stage_65 (fun H locs hW => ?_)
      refine lv_aload_n hx hb dX11_stage_68 rfl (lv_at hl 3 rfl) ?_
      refine rg_12_1 C hW (mx_ rfl) tw_365 dX11_stage_69 ?_
      refine lv_aload hx hb dX11_stage_72 (lv_at hl 0 rfl) ?_
      have hi6 : (up3 (up3 (up3 (up3 (up3 (up3 (up3 (clr I 9 q4 0) 9 4 q4 (-9)) 9 6 q4 (-9)) 9 0 q4 (J 3 1)) 9 1 q4 u5) 9 2 q4 3) 9 3 q4 (J 4 4)) 9 5 q4 a0) 9 1 q4 = u5 := (show (up3 (up3 (up3 (up3 (clr I 9 q4 0) 9 4 q4 (-9)) 9 6 q4 (-9)) 9 0 q4 (J 3 1)) 9 1 q4 u5) 9 1 q4 = _ from up3_s _ _ _ _ _)
      refine cv_ C hW (runV (x := (g.2.2.1 3)) (As := [.ref q4]) (rest := []) (T := ((J, L, (up3 (up3 (up3 (up3 (up3 (up3 (up3 (clr I 9 q4 0) 9 4 q4 (-9)) 9 6 q4 (-9)) 9 0 q4 (J 3 1)) 9 1 q4 u5) 9 2 q4 3) 9 3 q4 (J 4 4)) 9 5 q4 a0), (clr P 9 q4 none), E, N), sgX g ++ (dy ++ [(9, q4)]))) C hW (c_X2_goBy l g J L (up3 (up3 (up3 (up3 (up3 (up3 (up3 (clr I 9 q4 0) 9 4 q4 (-9)) 9 6 q4 (-9)) 9 0 q4 (J 3 1)) 9 1 q4 u5) 9 2 q4 3) 9 3 q4 (J 4 4)) 9 5 q4 a0) (clr P 9 q4 none) E N (dy ++ [(9, q4)]) H.size q4 (List.mem_append_right _ (List.mem_singleton.mpr rfl)) hwf (show 0 ≤ (((up3 (up3 (up3 (up3 (up3 (up3 (up3 (clr I 9 q4 0) 9 4 q4 (-9)) 9 6 q4 (-9)) 9 0 q4 (J 3 1)) 9 1 q4 u5) 9 2 q4 3) 9 3 q4 (J 4 4)) 9 5 q4 a0) 9 1 q4)).toInt ∧ (((up3 (up3 (up3 (up3 (up3 (up3 (up3 (clr I 9 q4 0) 9 4 q4 (-9)) 9 6 q4 (-9)) 9 0 q4 (J 3 1)) 9 1 q4 u5) 9 2 q4 3) 9 3 q4 (J 4 4)) 9 5 q4 a0) 9 1 q4)).toInt ≤ 9998 from by rw [hi6]; omega) (show (J 27 2).toInt ≤ 9999 from by omega)) mi_X2_goBy tw_454 (recv_ (T := ((J, L, (up3 (up3 (up3 (up3 (up3 (up3 (up3 (clr I 9 q4 0) 9 4 q4 (-9)) 9 6 q4 (-9)) 9 0 q4 (J 3 1)) 9 1 q4 u5) 9 2 q4 3) 9 3 q4 (J 4 4)) 9 5 q4 a0), (clr P 9 q4 none), E, N), sgX g ++ (dy ++ [(9, q4)]))) C hW (mx_ rfl) rfl rfl) ⟨rfl, rfl, Nat.le_of_ble_eq_true rfl, Nat.le_of_ble_eq_true rfl⟩ rfl hl.1 rfl (Nat.le_of_ble_eq_true rfl) dX11_stage_74 ⟨Nat.le_of_ble_eq_true rfl, Nat.le_of_ble_eq_true rfl⟩) (fun u7 H locs hp7 hW => ?_)
      have hW : WB g A s.heap H locs ((hv J [] [(3, 1), (3, 2), (3, 3), (27, 0), (27, 2)] u7.1), L, (hv (up3 (up3 (up3 (up3 (up3 (up3 (up3 (clr I 9 q4 0) 9 4 q4 (-9)) 9 6 q4 (-9)) 9 0 q4 (J 3 1)) 9 1 q4 u5) 9 2 q4 3) 9 3 q4 (J 4 4)) 9 5 q4 a0) [] [] u7.2.1), (hv (clr P 9 q4 none) [37] [] u7.2.2.1), (hv1 E [27] u7.2.2.2.1), u7.2.2.2.2.1) (sgX g ++ u7.2.2.2.2.2) := hW
      obtain ⟨hwf, hd7, hf7_0, hf7_1⟩ : WXF g (hv J [] [(3, 1), (3, 2), (3, 3), (27, 0), (27, 2)] u7.1) (hv (clr P 9 q4 none) [37] [] u7.2.2.1) (hv1 E [27] u7.2.2.2.1) u7.2.2.2.2.1 u7.2.2.2.2.2 ∧ (∀ x ∈ (dy ++ [(9, q4)]), x ∈ u7.2.2.2.2.2) ∧ ((u7.1 3 1).toInt = (((up3 (up3 (up3 (up3 (up3 (up3 (up3 (clr I 9 q4 0) 9 4 q4 (-9)) 9 6 q4 (-9)) 9 0 q4 (J 3 1)) 9 1 q4 u5) 9 2 q4 3) 9 3 q4 (J 4 4)) 9 5 q4 a0) 9 1 q4)).toInt + 1) ∧ ((u7.1 27 2).toInt = (J 27 2).toInt + 1) := hp7
      rw [hi6] at hf7_0
      refine lv_iload_n hx hb dX11_stage_77 rfl (lv_at hl 1 rfl) ?_
      have hJe : (hv J [] [(3, 1), (3, 2), (3, 3), (27, 0), (27, 2)] u7.1) = hv J [42] [(3, 1), (3, 2), (3, 3), (27, 0), (27, 2)] (hv J [] [(3, 1), (3, 2), (3, 3), (27, 0), (27, 2)] u7.1) := ag_hvE (J := J) (R := [42]) (F := [(3, 1), (3, 2), (3, 3), (27, 0), (27, 2)]) (ag_hv rfl rfl ag_rf)
      have hIe : (hv (up3 (up3 (up3 (up3 (up3 (up3 (up3 (clr I 9 q4 0) 9 4 q4 (-9)) 9 6 q4 (-9)) 9 0 q4 (J 3 1)) 9 1 q4 u5) 9 2 q4 3) 9 3 q4 (J 4 4)) 9 5 q4 a0) [] [] u7.2.1) = hv I [9] [] (hv (up3 (up3 (up3 (up3 (up3 (up3 (up3 (clr I 9 q4 0) 9 4 q4 (-9)) 9 6 q4 (-9)) 9 0 q4 (J 3 1)) 9 1 q4 u5) 9 2 q4 3) 9 3 q4 (J 4 4)) 9 5 q4 a0) [] [] u7.2.1) := ag_hvE (J := I) (R := [9]) (F := []) (ag_hv rfl rfl (ag_up3 (Or.inl rfl) (ag_up3 (Or.inl rfl) (ag_up3 (Or.inl rfl) (ag_up3 (Or.inl rfl) (ag_up3 (Or.inl rfl) (ag_up3 (Or.inl rfl) (ag_up3 (Or.inl rfl) (ag_clr rfl ag_rf)))))))))
      have hPe : (hv (clr P 9 q4 none) [37] [] u7.2.2.1) = hv P [9, 37] [] (hv (clr P 9 q4 none) [37] [] u7.2.2.1) := ag_hvE (J := P) (R := [9, 37]) (F := []) (ag_hv rfl rfl (ag_clr rfl ag_rf))
      have hEe : (hv1 E [27] u7.2.2.2.1) = hv1 E [27] (hv1 E [27] u7.2.2.2.1) := hv1_e (R := [27]) (hv1_ag rfl (fun _ _ => rfl))
      have hWr : WB g A s.heap H locs (hv J [42] [(3, 1), (3, 2), (3, 3), (27, 0), (27, 2)] (hv J [] [(3, 1), (3, 2), (3, 3), (27, 0), (27, 2)] u7.1), L, hv I [9] [] (hv (up3 (up3 (up3 (up3 (up3 (up3 (up3 (clr I 9 q4 0) 9 4 q4 (-9)) 9 6 q4 (-9)) 9 0 q4 (J 3 1)) 9 1 q4 u5) 9 2 q4 3) 9 3 q4 (J 4 4)) 9 5 q4 a0) [] [] u7.2.1), hv P [9, 37] [] (hv (clr P 9 q4 none) [37] [] u7.2.2.1), hv1 E [27] (hv1 E [27] u7.2.2.2.1), u7.2.2.2.2.1) (sgX g ++ u7.2.2.2.2.2) := by
        rw [← hJe, ← hIe, ← hPe, ← hEe]; exact hW
      have hwr : WXF g (hv J [42] [(3, 1), (3, 2), (3, 3), (27, 0), (27, 2)] (hv J [] [(3, 1), (3, 2), (3, 3), (27, 0), (27, 2)] u7.1)) (hv P [9, 37] [] (hv (clr P 9 q4 none) [37] [] u7.2.2.1)) (hv1 E [27] (hv1 E [27] u7.2.2.2.1)) u7.2.2.2.2.1 u7.2.2.2.2.2 := by
        rw [← hJe, ← hPe, ← hEe]; exact hwf
      refine W.widen (k := 10) (n := 20100) (Nat.le_of_ble_eq_true rfl) (Nat.le_of_ble_eq_true rfl) ?_
      exact end_i C hr hlocks ((hv J [] [(3, 1), (3, 2), (3, 3), (27, 0), (27, 2)] u7.1), (hv (up3 (up3 (up3 (up3 (up3 (up3 (up3 (clr I 9 q4 0) 9 4 q4 (-9)) 9 6 q4 (-9)) 9 0 q4 (J 3 1)) 9 1 q4 u5) 9 2 q4 3) 9 3 q4 (J 4 4)) 9 5 q4 a0) [] [] u7.2.1), (hv (clr P 9 q4 none) [37] [] u7.2.2.1), (hv1 E [27] u7.2.2.2.1), u7.2.2.2.2.1, u7.2.2.2.2.2) hWr ⟨hwr, fun x hx => hd7 x ((fun x hx => List.mem_append_left _ ((fun x hx => hx) x hx)) x hx), show 0 ≤ (u7.1 3 1).toInt ∧ (u7.1 3 1).toInt ≤ 9999 ∧ (u7.1 27 2).toInt ≤ (u7.1 3 1).toInt from by first | omega | exact ⟨by omega, by omega, by omega⟩⟩ dX11_stage_78
    · have c3 : 9999 ≤ (J 3 1).toInt := tnlt rfl kp9999 c3
      refine lv_aload_n hx hb dX11_stage_28 rfl (lv_at hl 1 rfl) ?_
      refine lv_bipush (v := (-6)) hx hb dX11_stage_29 (by decide) ?_
      refine ci_ C hW (runV (x := (g.2.2.1 12)) (As := [.int (-6)]) (rest := []) (T := ((J, L, I, P, E, N), sgX g ++ dy)) C hW (c_X11_refuse l g J L I P E N dy H.size (-6) hwf) mi_X11_refuse tw_411 (recv_ (T := ((J, L, I, P, E, N), sgX g ++ dy)) C hW (mx_ rfl) rfl rfl) ⟨rfl, rfl, Nat.le_of_ble_eq_true rfl, Nat.le_of_ble_eq_true rfl⟩ rfl hl.1 rfl (Nat.le_of_ble_eq_true rfl) dX11_stage_31 ⟨Nat.le_of_ble_eq_true rfl, Nat.le_of_ble_eq_true rfl⟩) (fun r8 u8 H locs hp8 hW => ?_)
      have hc8 : ((r8 = (-6))) := hp8
      clear hp8
      have hr8 : r8.toInt = (-6) := by rw [hc8]; exact kn6
      have hW : WB g A s.heap H locs ((hv J [42] [] u8), L, I, P, E, N) (sgX g ++ dy) := hW
      have hJe : (hv J [42] [] u8) = hv J [42] [(3, 1), (3, 2), (3, 3), (27, 0), (27, 2)] (hv J [42] [] u8) := ag_hvE (J := J) (R := [42]) (F := [(3, 1), (3, 2), (3, 3), (27, 0), (27, 2)]) (ag_hv rfl rfl ag_rf)
      have hIe : I = hv I [9] [] I := ag_hvE (J := I) (R := [9]) (F := []) ag_rf
      have hPe : P = hv P [9, 37] [] P := ag_hvE (J := P) (R := [9, 37]) (F := []) ag_rf
      have hEe : E = hv1 E [27] E := hv1_e (R := [27]) (fun _ _ => rfl)
      have hWr : WB g A s.heap H locs (hv J [42] [(3, 1), (3, 2), (3, 3), (27, 0), (27, 2)] (hv J [42] [] u8), L, hv I [9] [] I, hv P [9, 37] [] P, hv1 E [27] E, N) (sgX g ++ dy) := by
        rw [← hJe, ← hIe, ← hPe, ← hEe]; exact hW
      have hwr : WXF g (hv J [42] [(3, 1), (3, 2), (3, 3), (27, 0), (27, 2)] (hv J [42] [] u8)) (hv P [9, 37] [] P) (hv1 E [27] E) N dy := by
        rw [← hJe, ← hPe, ← hEe]; exact hwf
      refine W.widen (k := 10) (n := 20100) (Nat.le_of_ble_eq_true rfl) (Nat.le_of_ble_eq_true rfl) ?_
      exact end_i C hr hlocks ((hv J [42] [] u8), I, P, E, N, dy) hWr ⟨hwr, fun x hx => hx, show 0 ≤ (J 3 1).toInt ∧ (J 3 1).toInt ≤ 9999 ∧ (J 27 2).toInt ≤ (J 3 1).toInt from by first | omega | exact ⟨by omega, by omega, by omega⟩⟩ dX11_stage_34
  · have c2 : ¬ r1.toInt = 0 := tne rfl kp0 c2
    refine lv_aload_n hx hb dX11_stage_9 rfl (lv_at hl 1 rfl) ?_
    refine lv_iload_n hx hb dX11_stage_10 rfl (lv_at hl 0 rfl) ?_
    refine ci_ C hW (runV (x := (g.2.2.1 12)) (As := [.int r1]) (rest := []) (T := ((J, L, I, P, E, N), sgX g ++ dy)) C hW (c_X11_refuse l g J L I P E N dy H.size r1 hwf) mi_X11_refuse tw_411 (recv_ (T := ((J, L, I, P, E, N), sgX g ++ dy)) C hW (mx_ rfl) rfl rfl) ⟨rfl, rfl, Nat.le_of_ble_eq_true rfl, Nat.le_of_ble_eq_true rfl⟩ rfl hl.1 rfl (Nat.le_of_ble_eq_true rfl) dX11_stage_11 ⟨Nat.le_of_ble_eq_true rfl, Nat.le_of_ble_eq_true rfl⟩) (fun r9 u9 H locs hp9 hW => ?_)
    have hc9 : ((r9 = r1)) := hp9
    clear hp9
    have hr9 : r9.toInt = (r1).toInt := by rw [hc9]
    have hW : WB g A s.heap H locs ((hv J [42] [] u9), L, I, P, E, N) (sgX g ++ dy) := hW
    have hJe : (hv J [42] [] u9) = hv J [42] [(3, 1), (3, 2), (3, 3), (27, 0), (27, 2)] (hv J [42] [] u9) := ag_hvE (J := J) (R := [42]) (F := [(3, 1), (3, 2), (3, 3), (27, 0), (27, 2)]) (ag_hv rfl rfl ag_rf)
    have hIe : I = hv I [9] [] I := ag_hvE (J := I) (R := [9]) (F := []) ag_rf
    have hPe : P = hv P [9, 37] [] P := ag_hvE (J := P) (R := [9, 37]) (F := []) ag_rf
    have hEe : E = hv1 E [27] E := hv1_e (R := [27]) (fun _ _ => rfl)
    have hWr : WB g A s.heap H locs (hv J [42] [(3, 1), (3, 2), (3, 3), (27, 0), (27, 2)] (hv J [42] [] u9), L, hv I [9] [] I, hv P [9, 37] [] P, hv1 E [27] E, N) (sgX g ++ dy) := by
      rw [← hJe, ← hIe, ← hPe, ← hEe]; exact hW
    have hwr : WXF g (hv J [42] [(3, 1), (3, 2), (3, 3), (27, 0), (27, 2)] (hv J [42] [] u9)) (hv P [9, 37] [] P) (hv1 E [27] E) N dy := by
      rw [← hJe, ← hPe, ← hEe]; exact hwf
    refine W.widen (k := 10) (n := 20100) (Nat.le_of_ble_eq_true rfl) (Nat.le_of_ble_eq_true rfl) ?_
    exact end_i C hr hlocks ((hv J [42] [] u9), I, P, E, N, dy) hWr ⟨hwr, fun x hx => hx, show 0 ≤ (J 3 1).toInt ∧ (J 3 1).toInt ≤ 9999 ∧ (J 27 2).toInt ≤ (J 3 1).toInt from by first | omega | exact ⟨by omega, by omega, by omega⟩⟩ dX11_stage_14

set_option maxHeartbeats 4000000 in
set_option maxRecDepth 100000 in
theorem c_X11_say (l : Launch) (g : gG) (J : Nat → Nat → Int32) (L : Nat → Nat → Int64) (I : Nat → Nat → Nat → Int32) (P : Nat → Nat → Nat → Option Nat) (E : Nat → Option Nat) (N : Nat → Nat) (dy : List (Nat × Nat)) (sz : Nat) (a0 : Int32) (a1 : Int32) (a2 : Int32) (hwf : WXF g J P E N dy) (hn : 0 ≤ (J 3 1).toInt ∧ (J 3 1).toInt ≤ 9999) (hs : (J 27 2).toInt ≤ (J 3 1).toInt) : Met l yX11_say (WS yX11_say cX11_say 7 (some .int)) (RM (9) 10 20100) (PC g [.ref (g.2.2.1 12), .int a0, .int a1, .int a2] ((J, L, I, P, E, N), sgX g ++ dy) sz) (va_Qi (fun (r : Int32) (u : (Nat → Nat → Int32) × (Nat → Nat → Nat → Int32) × (Nat → Nat → Nat → Option Nat) × (Nat → Option Nat) × (Nat → Nat) × List (Nat × Nat)) => WXF g (hv J [42, 45] [(3, 1), (3, 2), (3, 3), (8, 1), (8, 2), (8, 3), (8, 4), (8, 5), (8, 6), (8, 7), (8, 8), (8, 9), (27, 0), (27, 2)] u.1) (hv P [9, 37] [] u.2.2.1) (hv1 E [27] u.2.2.2.1) u.2.2.2.2.1 u.2.2.2.2.2 ∧ (∀ x ∈ dy, x ∈ u.2.2.2.2.2) ∧ (0 ≤ (u.1 3 1).toInt ∧ (u.1 3 1).toInt ≤ 9999 ∧ (u.1 27 2).toInt ≤ (u.1 3 1).toInt)) (fun u t => at_ g (FR g ((J, L, I, P, E, N), sgX g ++ dy) sz) ((((hv J [42, 45] [(3, 1), (3, 2), (3, 3), (8, 1), (8, 2), (8, 3), (8, 4), (8, 5), (8, 6), (8, 7), (8, 8), (8, 9), (27, 0), (27, 2)] u.1), L, (hv I [9] [(5, 2), (7, 1), (7, 2)] u.2.1), (hv P [9, 37] [] u.2.2.1), (hv1 E [27] u.2.2.2.1), u.2.2.2.2.1), sgX g ++ u.2.2.2.2.2)) t) (FR g ((J, L, I, P, E, N), sgX g ++ dy) sz)) 10 20100 (FR g ((J, L, I, P, E, N), sgX g ++ dy) sz) := by
  refine ent (by decide +kernel) (Nat.le_of_ble_eq_true rfl) ?_
  intro p e s m below meth c ls hsz C hW hr hlocks hname hl
  generalize FR g ((J, L, I, P, E, N), sgX g ++ dy) sz = A at C hW ⊢
  have hx := C.1.1
  have hb := C.1.2.1
  have hts := C.1.2.2.2.2
  have hl : lv_has ls 7 [(0, .ref (g.2.2.1 12)), (1, .int a0), (2, .int a1), (3, .int a2)] := hl
  obtain ⟨H, hH⟩ : ∃ H : Heap, H = s.heap := ⟨_, rfl⟩
  obtain ⟨locs, hlocs⟩ : ∃ q : List Loc, q = [] := ⟨_, rfl⟩
  have hW : WB g A s.heap H locs (J, L, I, P, E, N) (sgX g ++ dy) := by rw [hH, hlocs]; exact hW
  refine start_ hH hlocs ?_
  refine lv_iload_n hx hb dX11_say_0 rfl (lv_at hl 1 rfl) ?_
  refine lv_if_lt (tgt := 14) hx hb dX11_say_1 (by decide) (fun c1 => ?_) (fun c1 => ?_)
  · have c1 : a0.toInt < 0 := tlt rfl kp0 c1
    refine lv_aload_n hx hb dX11_say_14 rfl (lv_at hl 0 rfl) ?_
    refine lv_bipush (v := (-2)) hx hb dX11_say_15 (by decide) ?_
    refine ci_ C hW (runV (x := (g.2.2.1 12)) (As := [.int (-2)]) (rest := []) (T := ((J, L, I, P, E, N), sgX g ++ dy)) C hW (c_X11_refuse l g J L I P E N dy H.size (-2) hwf) mi_X11_refuse tw_411 (recv_ (T := ((J, L, I, P, E, N), sgX g ++ dy)) C hW (mx_ rfl) rfl rfl) ⟨rfl, rfl, Nat.le_of_ble_eq_true rfl, Nat.le_of_ble_eq_true rfl⟩ rfl hl.1 rfl (Nat.le_of_ble_eq_true rfl) dX11_say_17 ⟨Nat.le_of_ble_eq_true rfl, Nat.le_of_ble_eq_true rfl⟩) (fun r2 u2 H locs hp2 hW => ?_)
    have hc2 : ((r2 = (-2))) := hp2
    clear hp2
    have hr2 : r2.toInt = (-2) := by rw [hc2]; exact kn2
    have hW : WB g A s.heap H locs ((hv J [42] [] u2), L, I, P, E, N) (sgX g ++ dy) := hW
    have hJe : (hv J [42] [] u2) = hv J [42, 45] [(3, 1), (3, 2), (3, 3), (8, 1), (8, 2), (8, 3), (8, 4), (8, 5), (8, 6), (8, 7), (8, 8), (8, 9), (27, 0), (27, 2)] (hv J [42] [] u2) := ag_hvE (J := J) (R := [42, 45]) (F := [(3, 1), (3, 2), (3, 3), (8, 1), (8, 2), (8, 3), (8, 4), (8, 5), (8, 6), (8, 7), (8, 8), (8, 9), (27, 0), (27, 2)]) (ag_hv rfl rfl ag_rf)
    have hIe : I = hv I [9] [(5, 2), (7, 1), (7, 2)] I := ag_hvE (J := I) (R := [9]) (F := [(5, 2), (7, 1), (7, 2)]) ag_rf
    have hPe : P = hv P [9, 37] [] P := ag_hvE (J := P) (R := [9, 37]) (F := []) ag_rf
    have hEe : E = hv1 E [27] E := hv1_e (R := [27]) (fun _ _ => rfl)
    have hWr : WB g A s.heap H locs (hv J [42, 45] [(3, 1), (3, 2), (3, 3), (8, 1), (8, 2), (8, 3), (8, 4), (8, 5), (8, 6), (8, 7), (8, 8), (8, 9), (27, 0), (27, 2)] (hv J [42] [] u2), L, hv I [9] [(5, 2), (7, 1), (7, 2)] I, hv P [9, 37] [] P, hv1 E [27] E, N) (sgX g ++ dy) := by
      rw [← hJe, ← hIe, ← hPe, ← hEe]; exact hW
    have hwr : WXF g (hv J [42, 45] [(3, 1), (3, 2), (3, 3), (8, 1), (8, 2), (8, 3), (8, 4), (8, 5), (8, 6), (8, 7), (8, 8), (8, 9), (27, 0), (27, 2)] (hv J [42] [] u2)) (hv P [9, 37] [] P) (hv1 E [27] E) N dy := by
      rw [← hJe, ← hPe, ← hEe]; exact hwf
    refine W.widen (k := 10) (n := 20100) (Nat.le_of_ble_eq_true rfl) (Nat.le_of_ble_eq_true rfl) ?_
    exact end_i C hr hlocks ((hv J [42] [] u2), I, P, E, N, dy) hWr ⟨hwr, fun x hx => hx, show 0 ≤ (J 3 1).toInt ∧ (J 3 1).toInt ≤ 9999 ∧ (J 27 2).toInt ≤ (J 3 1).toInt from by first | omega | exact ⟨by omega, by omega, by omega⟩⟩ dX11_say_20
  · have c1 : 0 ≤ a0.toInt := tnlt rfl kp0 c1
    refine lv_iload_n hx hb dX11_say_4 rfl (lv_at hl 1 rfl) ?_
    refine lv_iconst (v := 5) hx hb dX11_say_5 (by decide) ?_
    refine lv_icmp_gt (tgt := 14) hx hb dX11_say_6 (by decide) (fun c3 => ?_) (fun c3 => ?_)
    · have c3 : 5 < a0.toInt := tlt kp5 rfl c3
      refine lv_aload_n hx hb dX11_say_14 rfl (lv_at hl 0 rfl) ?_
      refine lv_bipush (v := (-2)) hx hb dX11_say_15 (by decide) ?_
      refine ci_ C hW (runV (x := (g.2.2.1 12)) (As := [.int (-2)]) (rest := []) (T := ((J, L, I, P, E, N), sgX g ++ dy)) C hW (c_X11_refuse l g J L I P E N dy H.size (-2) hwf) mi_X11_refuse tw_411 (recv_ (T := ((J, L, I, P, E, N), sgX g ++ dy)) C hW (mx_ rfl) rfl rfl) ⟨rfl, rfl, Nat.le_of_ble_eq_true rfl, Nat.le_of_ble_eq_true rfl⟩ rfl hl.1 rfl (Nat.le_of_ble_eq_true rfl) dX11_say_17 ⟨Nat.le_of_ble_eq_true rfl, Nat.le_of_ble_eq_true rfl⟩) (fun r4 u4 H locs hp4 hW => ?_)
      have hc4 : ((r4 = (-2))) := hp4
      clear hp4
      have hr4 : r4.toInt = (-2) := by rw [hc4]; exact kn2
      have hW : WB g A s.heap H locs ((hv J [42] [] u4), L, I, P, E, N) (sgX g ++ dy) := hW
      have hJe : (hv J [42] [] u4) = hv J [42, 45] [(3, 1), (3, 2), (3, 3), (8, 1), (8, 2), (8, 3), (8, 4), (8, 5), (8, 6), (8, 7), (8, 8), (8, 9), (27, 0), (27, 2)] (hv J [42] [] u4) := ag_hvE (J := J) (R := [42, 45]) (F := [(3, 1), (3, 2), (3, 3), (8, 1), (8, 2), (8, 3), (8, 4), (8, 5), (8, 6), (8, 7), (8, 8), (8, 9), (27, 0), (27, 2)]) (ag_hv rfl rfl ag_rf)
      have hIe : I = hv I [9] [(5, 2), (7, 1), (7, 2)] I := ag_hvE (J := I) (R := [9]) (F := [(5, 2), (7, 1), (7, 2)]) ag_rf
      have hPe : P = hv P [9, 37] [] P := ag_hvE (J := P) (R := [9, 37]) (F := []) ag_rf
      have hEe : E = hv1 E [27] E := hv1_e (R := [27]) (fun _ _ => rfl)
      have hWr : WB g A s.heap H locs (hv J [42, 45] [(3, 1), (3, 2), (3, 3), (8, 1), (8, 2), (8, 3), (8, 4), (8, 5), (8, 6), (8, 7), (8, 8), (8, 9), (27, 0), (27, 2)] (hv J [42] [] u4), L, hv I [9] [(5, 2), (7, 1), (7, 2)] I, hv P [9, 37] [] P, hv1 E [27] E, N) (sgX g ++ dy) := by
        rw [← hJe, ← hIe, ← hPe, ← hEe]; exact hW
      have hwr : WXF g (hv J [42, 45] [(3, 1), (3, 2), (3, 3), (8, 1), (8, 2), (8, 3), (8, 4), (8, 5), (8, 6), (8, 7), (8, 8), (8, 9), (27, 0), (27, 2)] (hv J [42] [] u4)) (hv P [9, 37] [] P) (hv1 E [27] E) N dy := by
        rw [← hJe, ← hPe, ← hEe]; exact hwf
      refine W.widen (k := 10) (n := 20100) (Nat.le_of_ble_eq_true rfl) (Nat.le_of_ble_eq_true rfl) ?_
      exact end_i C hr hlocks ((hv J [42] [] u4), I, P, E, N, dy) hWr ⟨hwr, fun x hx => hx, show 0 ≤ (J 3 1).toInt ∧ (J 3 1).toInt ≤ 9999 ∧ (J 27 2).toInt ≤ (J 3 1).toInt from by first | omega | exact ⟨by omega, by omega, by omega⟩⟩ dX11_say_20
    · have c3 : a0.toInt ≤ 5 := tnlt kp5 rfl c3
      refine lv_iload_n hx hb dX11_say_9 rfl (lv_at hl 1 rfl) ?_
      refine lv_iconst (v := 3) hx hb dX11_say_10 (by decide) ?_
      refine lv_icmp_ne (tgt := 21) hx hb dX11_say_11 (by decide) (fun c5 => ?_) (fun c5 => ?_)
      · have c5 : ¬ a0.toInt = 3 := tne rfl kp3 c5
        refine lv_aload_n hx hb dX11_say_21 rfl (lv_at hl 0 rfl) ?_
        refine lv_iload_n hx hb dX11_say_22 rfl (lv_at hl 2 rfl) ?_
        refine cq_ C hW (runV (x := (g.2.2.1 12)) (As := [.int a1]) (rest := []) (T := ((J, L, I, P, E, N), sgX g ++ dy)) C hW (c_X11_readerOf l g J L I P E N dy H.size a1 hwf) mi_X11_readerOf tw_614 (recv_ (T := ((J, L, I, P, E, N), sgX g ++ dy)) C hW (mx_ rfl) rfl rfl) ⟨rfl, rfl, Nat.le_of_ble_eq_true rfl, Nat.le_of_ble_eq_true rfl⟩ rfl hl.1 rfl (Nat.le_of_ble_eq_true rfl) dX11_say_23 ⟨Nat.le_of_ble_eq_true rfl, Nat.le_of_ble_eq_true rfl⟩) (fun q6 u6 H locs hp6 hW => ?_)
        have hq6 : (q6 = none ∨ (∃ o9 : Nat, q6 = some o9 ∧ (7, o9) ∈ dy)) := hp6
        clear hp6
        have hW : WB g A s.heap H locs (J, L, I, P, E, N) (sgX g ++ dy) := hW
        rcases hq6 with ho6 | ⟨o6, ho6, hm6⟩ <;> subst ho6
        · refine lv_asv (v' := .null) rfl ?_
          refine lv_astoreN (lv' := [(4, .null), (0, .ref (g.2.2.1 12)), (1, .int a0), (2, .int a1), (3, .int a2)]) hx hb dX11_say_26 hl (by decide) rfl (fun ls hl => ?_)
          refine lv_aloadN hx hb dX11_say_28 (lv_at hl 0 rfl) ?_
          refine lv_ifnullN (tgt := 42) hx hb dX11_say_30 (by decide) ?_
          refine lv_aload_n hx hb dX11_say_42 rfl (lv_at hl 1 rfl) ?_
          refine lv_iconst (v := (-1)) hx hb dX11_say_43 (by decide) ?_
          refine ci_ C hW (runV (x := (g.2.2.1 12)) (As := [.int (-1)]) (rest := []) (T := ((J, L, I, P, E, N), sgX g ++ dy)) C hW (c_X11_refuse l g J L I P E N dy H.size (-1) hwf) mi_X11_refuse tw_411 (recv_ (T := ((J, L, I, P, E, N), sgX g ++ dy)) C hW (mx_ rfl) rfl rfl) ⟨rfl, rfl, Nat.le_of_ble_eq_true rfl, Nat.le_of_ble_eq_true rfl⟩ rfl hl.1 rfl (Nat.le_of_ble_eq_true rfl) dX11_say_44 ⟨Nat.le_of_ble_eq_true rfl, Nat.le_of_ble_eq_true rfl⟩) (fun r7 u7 H locs hp7 hW => ?_)
          have hc7 : ((r7 = (-1))) := hp7
          clear hp7
          have hr7 : r7.toInt = (-1) := by rw [hc7]; exact kn1
          have hW : WB g A s.heap H locs ((hv J [42] [] u7), L, I, P, E, N) (sgX g ++ dy) := hW
          have hJe : (hv J [42] [] u7) = hv J [42, 45] [(3, 1), (3, 2), (3, 3), (8, 1), (8, 2), (8, 3), (8, 4), (8, 5), (8, 6), (8, 7), (8, 8), (8, 9), (27, 0), (27, 2)] (hv J [42] [] u7) := ag_hvE (J := J) (R := [42, 45]) (F := [(3, 1), (3, 2), (3, 3), (8, 1), (8, 2), (8, 3), (8, 4), (8, 5), (8, 6), (8, 7), (8, 8), (8, 9), (27, 0), (27, 2)]) (ag_hv rfl rfl ag_rf)
          have hIe : I = hv I [9] [(5, 2), (7, 1), (7, 2)] I := ag_hvE (J := I) (R := [9]) (F := [(5, 2), (7, 1), (7, 2)]) ag_rf
          have hPe : P = hv P [9, 37] [] P := ag_hvE (J := P) (R := [9, 37]) (F := []) ag_rf
          have hEe : E = hv1 E [27] E := hv1_e (R := [27]) (fun _ _ => rfl)
          have hWr : WB g A s.heap H locs (hv J [42, 45] [(3, 1), (3, 2), (3, 3), (8, 1), (8, 2), (8, 3), (8, 4), (8, 5), (8, 6), (8, 7), (8, 8), (8, 9), (27, 0), (27, 2)] (hv J [42] [] u7), L, hv I [9] [(5, 2), (7, 1), (7, 2)] I, hv P [9, 37] [] P, hv1 E [27] E, N) (sgX g ++ dy) := by
            rw [← hJe, ← hIe, ← hPe, ← hEe]; exact hW
          have hwr : WXF g (hv J [42, 45] [(3, 1), (3, 2), (3, 3), (8, 1), (8, 2), (8, 3), (8, 4), (8, 5), (8, 6), (8, 7), (8, 8), (8, 9), (27, 0), (27, 2)] (hv J [42] [] u7)) (hv P [9, 37] [] P) (hv1 E [27] E) N dy := by
            rw [← hJe, ← hPe, ← hEe]; exact hwf
          refine W.widen (k := 10) (n := 20100) (Nat.le_of_ble_eq_true rfl) (Nat.le_of_ble_eq_true rfl) ?_
          exact end_i C hr hlocks ((hv J [42] [] u7), I, P, E, N, dy) hWr ⟨hwr, fun x hx => hx, show 0 ≤ (J 3 1).toInt ∧ (J 3 1).toInt ≤ 9999 ∧ (J 27 2).toInt ≤ (J 3 1).toInt from by first | omega | exact ⟨by omega, by omega, by omega⟩⟩ dX11_say_47
        · refine lv_asv (v' := .ref o6) rfl ?_
          refine lv_astore (lv' := [(4, .ref o6), (0, .ref (g.2.2.1 12)), (1, .int a0), (2, .int a1), (3, .int a2)]) hx hb dX11_say_26 hl (by decide) rfl (fun ls hl => ?_)
          refine lv_aload hx hb dX11_say_28 (lv_at hl 0 rfl) ?_
          refine lv_ifnull hx hb dX11_say_30 ?_
          refine lv_aload_n hx hb dX11_say_33 rfl (lv_at hl 1 rfl) ?_
          refine lv_iload_n hx hb dX11_say_34 rfl (lv_at hl 2 rfl) ?_
          refine lv_iload_n hx hb dX11_say_35 rfl (lv_at hl 4 rfl) ?_
          refine ci_ C hW (runV (x := (g.2.2.1 12)) (As := [.int a0, .int a2]) (rest := []) (T := ((J, L, I, P, E, N), sgX g ++ dy)) C hW (c_X11_isKnown l g J L I P E N dy H.size a0 a2 hwf) mi_X11_isKnown tw_627 (recv_ (T := ((J, L, I, P, E, N), sgX g ++ dy)) C hW (mx_ rfl) rfl rfl) ⟨rfl, rfl, Nat.le_of_ble_eq_true rfl, Nat.le_of_ble_eq_true rfl⟩ rfl hl.1 rfl (Nat.le_of_ble_eq_true rfl) dX11_say_36 ⟨Nat.le_of_ble_eq_true rfl, Nat.le_of_ble_eq_true rfl⟩) (fun r8 u8 H locs hp8 hW => ?_)
          have hc8 : ((r8.toInt = 1) ∨ (r8.toInt = 0)) := hp8
          clear hp8
          have hW : WB g A s.heap H locs (J, L, I, P, E, N) (sgX g ++ dy) := hW
          refine lv_if_ne (tgt := 48) hx hb dX11_say_39 (by decide) (fun c9 => ?_) (fun c9 => ?_)
          · have c9 : ¬ r8.toInt = 0 := tne rfl kp0 c9
            refine lv_aload hx hb dX11_say_48 (lv_at hl 0 rfl) ?_
            refine lv_aload_n hx hb dX11_say_50 rfl (lv_at hl 1 rfl) ?_
            refine rg_12_1 C hW (mx_ rfl) tw_365 dX11_say_51 ?_
            refine rg_3_1 C hW (mx_ rfl) tw_278 dX11_say_54 ?_
            refine lv_aload_n hx hb dX11_say_57 rfl (lv_at hl 1 rfl) ?_
            refine rg_12_12 C hW (mx_ rfl) tw_376 dX11_say_58 ?_
            refine lv_aload_n hx hb dX11_say_61 rfl (lv_at hl 1 rfl) ?_
            refine rg_12_13 C hW (mx_ rfl) tw_377 dX11_say_62 ?_
            refine ci_ C hW (runV (x := o6) (As := [.int (J 3 1), .int (J 12 12), .int (J 12 13)]) (rest := []) (T := ((J, L, I, P, E, N), sgX g ++ dy)) C hW (c_X6_isFree l g J L I P E N dy H.size o6 hm6 (J 3 1) (J 12 12) (J 12 13) hwf) mi_X6_isFree tw_619 (recv_ (T := ((J, L, I, P, E, N), sgX g ++ dy)) C hW (List.mem_append_right _ hm6) rfl rfl) ⟨rfl, rfl, Nat.le_of_ble_eq_true rfl, Nat.le_of_ble_eq_true rfl⟩ rfl hl.1 rfl (Nat.le_of_ble_eq_true rfl) dX11_say_65 ⟨Nat.le_of_ble_eq_true rfl, Nat.le_of_ble_eq_true rfl⟩) (fun r10 u10 H locs hp10 hW => ?_)
            have hc10 : ((r10.toInt = 1) ∨ (r10.toInt = 0)) := hp10
            clear hp10
            have hW : WB g A s.heap H locs (J, L, I, P, E, N) (sgX g ++ dy) := hW
            refine lv_if_eq (tgt := 80) hx hb dX11_say_68 (by decide) (fun c11 => ?_) (fun c11 => ?_)
            · have c11 : r10.toInt = 0 := teq rfl kp0 c11
              refine lv_aload_n hx hb dX11_say_80 rfl (lv_at hl 1 rfl) ?_
              refine lv_bipush (v := (-3)) hx hb dX11_say_81 (by decide) ?_
              refine ci_ C hW (runV (x := (g.2.2.1 12)) (As := [.int (-3)]) (rest := []) (T := ((J, L, I, P, E, N), sgX g ++ dy)) C hW (c_X11_refuse l g J L I P E N dy H.size (-3) hwf) mi_X11_refuse tw_411 (recv_ (T := ((J, L, I, P, E, N), sgX g ++ dy)) C hW (mx_ rfl) rfl rfl) ⟨rfl, rfl, Nat.le_of_ble_eq_true rfl, Nat.le_of_ble_eq_true rfl⟩ rfl hl.1 rfl (Nat.le_of_ble_eq_true rfl) dX11_say_83 ⟨Nat.le_of_ble_eq_true rfl, Nat.le_of_ble_eq_true rfl⟩) (fun r12 u12 H locs hp12 hW => ?_)
              have hc12 : ((r12 = (-3))) := hp12
              clear hp12
              have hr12 : r12.toInt = (-3) := by rw [hc12]; exact kn3
              have hW : WB g A s.heap H locs ((hv J [42] [] u12), L, I, P, E, N) (sgX g ++ dy) := hW
              have hJe : (hv J [42] [] u12) = hv J [42, 45] [(3, 1), (3, 2), (3, 3), (8, 1), (8, 2), (8, 3), (8, 4), (8, 5), (8, 6), (8, 7), (8, 8), (8, 9), (27, 0), (27, 2)] (hv J [42] [] u12) := ag_hvE (J := J) (R := [42, 45]) (F := [(3, 1), (3, 2), (3, 3), (8, 1), (8, 2), (8, 3), (8, 4), (8, 5), (8, 6), (8, 7), (8, 8), (8, 9), (27, 0), (27, 2)]) (ag_hv rfl rfl ag_rf)
              have hIe : I = hv I [9] [(5, 2), (7, 1), (7, 2)] I := ag_hvE (J := I) (R := [9]) (F := [(5, 2), (7, 1), (7, 2)]) ag_rf
              have hPe : P = hv P [9, 37] [] P := ag_hvE (J := P) (R := [9, 37]) (F := []) ag_rf
              have hEe : E = hv1 E [27] E := hv1_e (R := [27]) (fun _ _ => rfl)
              have hWr : WB g A s.heap H locs (hv J [42, 45] [(3, 1), (3, 2), (3, 3), (8, 1), (8, 2), (8, 3), (8, 4), (8, 5), (8, 6), (8, 7), (8, 8), (8, 9), (27, 0), (27, 2)] (hv J [42] [] u12), L, hv I [9] [(5, 2), (7, 1), (7, 2)] I, hv P [9, 37] [] P, hv1 E [27] E, N) (sgX g ++ dy) := by
                rw [← hJe, ← hIe, ← hPe, ← hEe]; exact hW
              have hwr : WXF g (hv J [42, 45] [(3, 1), (3, 2), (3, 3), (8, 1), (8, 2), (8, 3), (8, 4), (8, 5), (8, 6), (8, 7), (8, 8), (8, 9), (27, 0), (27, 2)] (hv J [42] [] u12)) (hv P [9, 37] [] P) (hv1 E [27] E) N dy := by
                rw [← hJe, ← hPe, ← hEe]; exact hwf
              refine W.widen (k := 10) (n := 20100) (Nat.le_of_ble_eq_true rfl) (Nat.le_of_ble_eq_true rfl) ?_
              exact end_i C hr hlocks ((hv J [42] [] u12), I, P, E, N, dy) hWr ⟨hwr, fun x hx => hx, show 0 ≤ (J 3 1).toInt ∧ (J 3 1).toInt ≤ 9999 ∧ (J 27 2).toInt ≤ (J 3 1).toInt from by first | omega | exact ⟨by omega, by omega, by omega⟩⟩ dX11_say_86
            · have c11 : ¬ r10.toInt = 0 := tne rfl kp0 c11
              refine lv_aload_n hx hb dX11_say_71 rfl (lv_at hl 1 rfl) ?_
              refine lv_iload_n hx hb dX11_say_72 rfl (lv_at hl 2 rfl) ?_
              refine lv_iload_n hx hb dX11_say_73 rfl (lv_at hl 4 rfl) ?_
              refine ci_ C hW (runV (x := (g.2.2.1 12)) (As := [.int a0, .int a2]) (rest := []) (T := ((J, L, I, P, E, N), sgX g ++ dy)) C hW (c_X11_isOfItsKind l g J L I P E N dy H.size a0 a2 hwf) mi_X11_isOfItsKind tw_650 (recv_ (T := ((J, L, I, P, E, N), sgX g ++ dy)) C hW (mx_ rfl) rfl rfl) ⟨rfl, rfl, Nat.le_of_ble_eq_true rfl, Nat.le_of_ble_eq_true rfl⟩ rfl hl.1 rfl (Nat.le_of_ble_eq_true rfl) dX11_say_74 ⟨Nat.le_of_ble_eq_true rfl, Nat.le_of_ble_eq_true rfl⟩) (fun r13 u13 H locs hp13 hW => ?_)
              have hc13 : ((r13.toInt = 1) ∨ (r13.toInt = 0)) := hp13
              clear hp13
              have hW : WB g A s.heap H locs (J, L, I, P, E, N) (sgX g ++ dy) := hW
              refine lv_if_ne (tgt := 87) hx hb dX11_say_77 (by decide) (fun c14 => ?_) (fun c14 => ?_)
              · have c14 : ¬ r13.toInt = 0 := tne rfl kp0 c14
                refine lv_iload_n hx hb dX11_say_87 rfl (lv_at hl 2 rfl) ?_
                refine lv_iconst (v := 2) hx hb dX11_say_88 (by decide) ?_
                refine lv_icmp_ne (tgt := 108) hx hb dX11_say_89 (by decide) (fun c15 => ?_) (fun c15 => ?_)
                · have c15 : ¬ a0.toInt = 2 := tne rfl kp2 c15
                  refine lv_aload_n hx hb dX11_say_108 rfl (lv_at hl 1 rfl) ?_
                  refine rg_12_1 C hW (mx_ rfl) tw_365 dX11_say_109 ?_
                  refine rg_3_1 C hW (mx_ rfl) tw_278 dX11_say_112 ?_
                  refine lv_sipush (v := 9999) hx hb dX11_say_115 (by decide) ?_
                  refine lv_icmp_lt (tgt := 128) hx hb dX11_say_118 (by decide) (fun c16 => ?_) (fun c16 => ?_)
                  · have c16 : (J 3 1).toInt < 9999 := tlt rfl kp9999 c16
                    refine lv_aload_n hx hb dX11_say_128 rfl (lv_at hl 1 rfl) ?_
                    refine rg_12_1 C hW (mx_ rfl) tw_365 dX11_say_129 ?_
                    refine rg_3_1 C hW (mx_ rfl) tw_278 dX11_say_132 ?_
                    refine lv_istore (lv' := [(5, .int (J 3 1)), (4, .ref o6), (0, .ref (g.2.2.1 12)), (1, .int a0), (2, .int a1), (3, .int a2)]) hx hb dX11_say_135 hl (by decide) rfl (fun ls hl => ?_)
                    refine g_new (r := 9) (S' := fun q => (J, L, clr I 9 q 0, clr P 9 q none, E, N)) (ci := 9) (fs := [.int 0, .int 0, .int 0, .int 0, .int 0, .int 0, .int 0]) C hW rfl rfl in_X8 tyX8 tyX8_ok tw_415 tw_416 tw_81 (fun j hj => by rcases (show j = 0 ∨ j = 1 ∨ j = 2 ∨ j = 3 ∨ j = 4 ∨ j = 5 ∨ j = 6 by omega) with rfl | rfl | rfl | rfl | rfl | rfl | rfl <;> rfl) (fun q => by simp only [cel, celc, clr_s] <;> rfl) (fun q r' a h => cel_clr 9 q r' a h) ⟨Nat.le_of_ble_eq_true rfl, Nat.le_of_ble_eq_true rfl⟩ dX11_say_137 (fun q17 H hfr17 hW => ?_)
                    rw [List.append_assoc] at hW
                    have hW : WB g A s.heap H locs (J, L, (clr I 9 q17 0), (clr P 9 q17 none), E, N) (sgX g ++ (dy ++ [(9, q17)])) := hW
                    refine lv_dup hx hb dX11_say_140 rfl ?_
                    refine lv_iload hx hb dX11_say_141 (lv_at hl 0 rfl) ?_
                    refine lv_iconst (v := 1) hx hb dX11_say_143 (by decide) ?_
                    refine lv_iload_n hx hb dX11_say_144 rfl (lv_at hl 3 rfl) ?_
                    refine lv_aload_n hx hb dX11_say_145 rfl (lv_at hl 2 rfl) ?_
                    refine rg_12_0 C hW (mx_ rfl) tw_364 dX11_say_146 ?_
                    refine rg_4_4 C hW (mx_ rfl) tw_240 dX11_say_149 ?_
                    refine cv_ C hW (runI (x := q17) (As := [.int (J 3 1), .int 1, .int a0, .int (J 4 4)]) (rest := [.ref q17]) (T := ((J, L, (clr I 9 q17 0), (clr P 9 q17 none), E, N), sgX g ++ (dy ++ [(9, q17)]))) C hW (c_X8_init l g J L (clr I 9 q17 0) (clr P 9 q17 none) E N (dy ++ [(9, q17)]) H.size q17 (List.mem_append_right _ (List.mem_singleton.mpr rfl)) (J 3 1) 1 a0 (J 4 4) (show 0 ≤ (J 3 1).toInt ∧ (J 3 1).toInt ≤ 9999 ∧ 0 ≤ (1 : Int32).toInt ∧ (1 : Int32).toInt ≤ 9999 from by (try simp only [kp1]); omega)) mi_X8_init tw_417 ⟨rfl, rfl, Nat.le_of_ble_eq_true rfl, Nat.le_of_ble_eq_true rfl⟩ rfl hl.1 rfl (Nat.le_of_ble_eq_true rfl) dX11_say_152 ⟨Nat.le_of_ble_eq_true rfl, Nat.le_of_ble_eq_true rfl⟩) (fun u18 H locs hp18 hW => ?_)
                    have hW : WB g A s.heap H locs (J, L, (up3 (up3 (up3 (up3 (up3 (up3 (clr I 9 q17 0) 9 4 q17 (-9)) 9 6 q17 (-9)) 9 0 q17 (J 3 1)) 9 1 q17 u18) 9 2 q17 a0) 9 3 q17 (J 4 4)), (clr P 9 q17 none), E, N) (sgX g ++ (dy ++ [(9, q17)])) := hW
                    have hfc18 : ((u18).toInt = (J 3 1).toInt + 1 - 1) := hp18
                    have hwf : WXF g J (clr P 9 q17 none) E N (dy ++ [(9, q17)]) := wxf_new (J := J) hwf (fun x hx => hfr17 x (List.mem_append_right _ hx)) (fun r f a h => clr_o _ _ _ h _ _) (fun _ _ => rfl) ⟨fun h => absurd h (by decide), fun h => absurd h (by decide), fun h => absurd h (by decide), fun h => absurd h (by decide)⟩
                    refine lv_astore (lv' := [(6, .ref q17), (5, .int (J 3 1)), (4, .ref o6), (0, .ref (g.2.2.1 12)), (1, .int a0), (2, .int a1), (3, .int a2)]) hx hb dX11_say_155 hl (by decide) rfl (fun ls hl => ?_)
                    refine lv_aload hx hb dX11_say_157 (lv_at hl 0 rfl) ?_
                    refine lv_iload_n hx hb dX11_say_159 rfl (lv_at hl 5 rfl) ?_
                    refine rp_9_4 C hW (List.mem_append_right _ (List.mem_append_right _ (List.mem_singleton.mpr rfl))) tw_434 dX11_say_160 (fun H locs hW => ?_)
                    refine lv_aload hx hb dX11_say_163 (lv_at hl 0 rfl) ?_
                    refine lv_aload hx hb dX11_say_165 (lv_at hl 2 rfl) ?_
                    refine rg_7_0 C hW (List.mem_append_right _ (List.mem_append_left _ hm6)) tw_596 dX11_say_167 ?_
                    refine lv_topi (fun x19 (e19 : x19 = I 7 0 o6) => ?_)
                    have t19 : x19.toInt = (I 7 0 o6).toInt := by rw [e19]
                    refine rp_9_5 C hW (List.mem_append_right _ (List.mem_append_right _ (List.mem_singleton.mpr rfl))) tw_436 dX11_say_170 (fun H locs hW => ?_)
                    refine lv_aload hx hb dX11_say_173 (lv_at hl 0 rfl) ?_
                    refine lv_iload_n hx hb dX11_say_175 rfl (lv_at hl 4 rfl) ?_
                    refine ci_ C hW (runS (As := [.int a0]) (rest := [.ref q17]) (T := ((J, L, (up3 (up3 (up3 (up3 (up3 (up3 (up3 (up3 (clr I 9 q17 0) 9 4 q17 (-9)) 9 6 q17 (-9)) 9 0 q17 (J 3 1)) 9 1 q17 u18) 9 2 q17 a0) 9 3 q17 (J 4 4)) 9 4 q17 a1) 9 5 q17 x19), (clr P 9 q17 none), E, N), sgX g ++ (dy ++ [(9, q17)]))) C hW (c_X11_tellsOf l g J L (up3 (up3 (up3 (up3 (up3 (up3 (up3 (up3 (clr I 9 q17 0) 9 4 q17 (-9)) 9 6 q17 (-9)) 9 0 q17 (J 3 1)) 9 1 q17 u18) 9 2 q17 a0) 9 3 q17 (J 4 4)) 9 4 q17 a1) 9 5 q17 x19) (clr P 9 q17 none) E N (dy ++ [(9, q17)]) H.size a0 ) mi_X11_tellsOf tw_636 ⟨rfl, rfl, Nat.le_of_ble_eq_true rfl, Nat.le_of_ble_eq_true rfl⟩ rfl hl.1 rfl (Nat.le_of_ble_eq_true rfl) dX11_say_176 ⟨Nat.le_of_ble_eq_true rfl, Nat.le_of_ble_eq_true rfl⟩) (fun r20 u20 H locs hp20 hW => ?_)
                    have hc20 : ((r20.toInt = 1) ∨ (r20.toInt = 0)) := hp20
                    clear hp20
                    have hW : WB g A s.heap H locs (J, L, (up3 (up3 (up3 (up3 (up3 (up3 (up3 (up3 (clr I 9 q17 0) 9 4 q17 (-9)) 9 6 q17 (-9)) 9 0 q17 (J 3 1)) 9 1 q17 u18) 9 2 q17 a0) 9 3 q17 (J 4 4)) 9 4 q17 a1) 9 5 q17 x19), (clr P 9 q17 none), E, N) (sgX g ++ (dy ++ [(9, q17)])) := hW
                    refine lv_if_eq (tgt := 190) hx hb dX11_say_179 (by decide) (fun c21 => ?_) (fun c21 => ?_)
                    · have c21 : r20.toInt = 0 := teq rfl kp0 c21
                      refine lv_bipush (v := (-9)) hx hb dX11_say_190 (by decide) ?_
                      refine rp_9_6 C hW (List.mem_append_right _ (List.mem_append_right _ (List.mem_singleton.mpr rfl))) tw_438 dX11_say_192 (fun H locs hW => ?_)
                      refine lv_aload_n hx hb dX11_say_195 rfl (lv_at hl 3 rfl) ?_
                      refine rg_12_1 C hW (mx_ rfl) tw_365 dX11_say_196 ?_
                      refine lv_aload hx hb dX11_say_199 (lv_at hl 0 rfl) ?_
                      have hi22 : (up3 (up3 (up3 (up3 (up3 (up3 (up3 (up3 (up3 (clr I 9 q17 0) 9 4 q17 (-9)) 9 6 q17 (-9)) 9 0 q17 (J 3 1)) 9 1 q17 u18) 9 2 q17 a0) 9 3 q17 (J 4 4)) 9 4 q17 a1) 9 5 q17 x19) 9 6 q17 (-9)) 9 1 q17 = u18 := (show (up3 (up3 (up3 (up3 (clr I 9 q17 0) 9 4 q17 (-9)) 9 6 q17 (-9)) 9 0 q17 (J 3 1)) 9 1 q17 u18) 9 1 q17 = _ from up3_s _ _ _ _ _)
                      refine cv_ C hW (runV (x := (g.2.2.1 3)) (As := [.ref q17]) (rest := []) (T := ((J, L, (up3 (up3 (up3 (up3 (up3 (up3 (up3 (up3 (up3 (clr I 9 q17 0) 9 4 q17 (-9)) 9 6 q17 (-9)) 9 0 q17 (J 3 1)) 9 1 q17 u18) 9 2 q17 a0) 9 3 q17 (J 4 4)) 9 4 q17 a1) 9 5 q17 x19) 9 6 q17 (-9)), (clr P 9 q17 none), E, N), sgX g ++ (dy ++ [(9, q17)]))) C hW (c_X2_goBy l g J L (up3 (up3 (up3 (up3 (up3 (up3 (up3 (up3 (up3 (clr I 9 q17 0) 9 4 q17 (-9)) 9 6 q17 (-9)) 9 0 q17 (J 3 1)) 9 1 q17 u18) 9 2 q17 a0) 9 3 q17 (J 4 4)) 9 4 q17 a1) 9 5 q17 x19) 9 6 q17 (-9)) (clr P 9 q17 none) E N (dy ++ [(9, q17)]) H.size q17 (List.mem_append_right _ (List.mem_singleton.mpr rfl)) hwf (show 0 ≤ (((up3 (up3 (up3 (up3 (up3 (up3 (up3 (up3 (up3 (clr I 9 q17 0) 9 4 q17 (-9)) 9 6 q17 (-9)) 9 0 q17 (J 3 1)) 9 1 q17 u18) 9 2 q17 a0) 9 3 q17 (J 4 4)) 9 4 q17 a1) 9 5 q17 x19) 9 6 q17 (-9)) 9 1 q17)).toInt ∧ (((up3 (up3 (up3 (up3 (up3 (up3 (up3 (up3 (up3 (clr I 9 q17 0) 9 4 q17 (-9)) 9 6 q17 (-9)) 9 0 q17 (J 3 1)) 9 1 q17 u18) 9 2 q17 a0) 9 3 q17 (J 4 4)) 9 4 q17 a1) 9 5 q17 x19) 9 6 q17 (-9)) 9 1 q17)).toInt ≤ 9998 from by rw [hi22]; omega) (show (J 27 2).toInt ≤ 9999 from by omega)) mi_X2_goBy tw_454 (recv_ (T := ((J, L, (up3 (up3 (up3 (up3 (up3 (up3 (up3 (up3 (up3 (clr I 9 q17 0) 9 4 q17 (-9)) 9 6 q17 (-9)) 9 0 q17 (J 3 1)) 9 1 q17 u18) 9 2 q17 a0) 9 3 q17 (J 4 4)) 9 4 q17 a1) 9 5 q17 x19) 9 6 q17 (-9)), (clr P 9 q17 none), E, N), sgX g ++ (dy ++ [(9, q17)]))) C hW (mx_ rfl) rfl rfl) ⟨rfl, rfl, Nat.le_of_ble_eq_true rfl, Nat.le_of_ble_eq_true rfl⟩ rfl hl.1 rfl (Nat.le_of_ble_eq_true rfl) dX11_say_201 ⟨Nat.le_of_ble_eq_true rfl, Nat.le_of_ble_eq_true rfl⟩) (fun u23 H locs hp23 hW => ?_)
                      have hW : WB g A s.heap H locs ((hv J [] [(3, 1), (3, 2), (3, 3), (27, 0), (27, 2)] u23.1), L, (hv (up3 (up3 (up3 (up3 (up3 (up3 (up3 (up3 (up3 (clr I 9 q17 0) 9 4 q17 (-9)) 9 6 q17 (-9)) 9 0 q17 (J 3 1)) 9 1 q17 u18) 9 2 q17 a0) 9 3 q17 (J 4 4)) 9 4 q17 a1) 9 5 q17 x19) 9 6 q17 (-9)) [] [] u23.2.1), (hv (clr P 9 q17 none) [37] [] u23.2.2.1), (hv1 E [27] u23.2.2.2.1), u23.2.2.2.2.1) (sgX g ++ u23.2.2.2.2.2) := hW
                      obtain ⟨hwf, hd23, hf23_0, hf23_1⟩ : WXF g (hv J [] [(3, 1), (3, 2), (3, 3), (27, 0), (27, 2)] u23.1) (hv (clr P 9 q17 none) [37] [] u23.2.2.1) (hv1 E [27] u23.2.2.2.1) u23.2.2.2.2.1 u23.2.2.2.2.2 ∧ (∀ x ∈ (dy ++ [(9, q17)]), x ∈ u23.2.2.2.2.2) ∧ ((u23.1 3 1).toInt = (((up3 (up3 (up3 (up3 (up3 (up3 (up3 (up3 (up3 (clr I 9 q17 0) 9 4 q17 (-9)) 9 6 q17 (-9)) 9 0 q17 (J 3 1)) 9 1 q17 u18) 9 2 q17 a0) 9 3 q17 (J 4 4)) 9 4 q17 a1) 9 5 q17 x19) 9 6 q17 (-9)) 9 1 q17)).toInt + 1) ∧ ((u23.1 27 2).toInt = (J 27 2).toInt + 1) := hp23
                      rw [hi22] at hf23_0
                      refine lv_aload hx hb dX11_say_204 (lv_at hl 2 rfl) ?_
                      refine lv_iload hx hb dX11_say_206 (lv_at hl 1 rfl) ?_
                      refine cv_ C hW (runV (x := o6) (As := [.int (J 3 1)]) (rest := []) (T := (((hv J [] [(3, 1), (3, 2), (3, 3), (27, 0), (27, 2)] u23.1), L, (hv (up3 (up3 (up3 (up3 (up3 (up3 (up3 (up3 (up3 (clr I 9 q17 0) 9 4 q17 (-9)) 9 6 q17 (-9)) 9 0 q17 (J 3 1)) 9 1 q17 u18) 9 2 q17 a0) 9 3 q17 (J 4 4)) 9 4 q17 a1) 9 5 q17 x19) 9 6 q17 (-9)) [] [] u23.2.1), (hv (clr P 9 q17 none) [37] [] u23.2.2.1), (hv1 E [27] u23.2.2.2.1), u23.2.2.2.2.1), sgX g ++ u23.2.2.2.2.2)) C hW (c_X6_readIn l g (hv J [] [(3, 1), (3, 2), (3, 3), (27, 0), (27, 2)] u23.1) L (hv (up3 (up3 (up3 (up3 (up3 (up3 (up3 (up3 (up3 (clr I 9 q17 0) 9 4 q17 (-9)) 9 6 q17 (-9)) 9 0 q17 (J 3 1)) 9 1 q17 u18) 9 2 q17 a0) 9 3 q17 (J 4 4)) 9 4 q17 a1) 9 5 q17 x19) 9 6 q17 (-9)) [] [] u23.2.1) (hv (clr P 9 q17 none) [37] [] u23.2.2.1) (hv1 E [27] u23.2.2.2.1) u23.2.2.2.2.1 u23.2.2.2.2.2 H.size o6 (hd23 _ (List.mem_append_left _ hm6)) (J 3 1) hwf) mi_X6_readIn tw_696 (recv_ (T := (((hv J [] [(3, 1), (3, 2), (3, 3), (27, 0), (27, 2)] u23.1), L, (hv (up3 (up3 (up3 (up3 (up3 (up3 (up3 (up3 (up3 (clr I 9 q17 0) 9 4 q17 (-9)) 9 6 q17 (-9)) 9 0 q17 (J 3 1)) 9 1 q17 u18) 9 2 q17 a0) 9 3 q17 (J 4 4)) 9 4 q17 a1) 9 5 q17 x19) 9 6 q17 (-9)) [] [] u23.2.1), (hv (clr P 9 q17 none) [37] [] u23.2.2.1), (hv1 E [27] u23.2.2.2.1), u23.2.2.2.2.1), sgX g ++ u23.2.2.2.2.2)) C hW (List.mem_append_right _ (hd23 _ (List.mem_append_left _ hm6))) rfl rfl) ⟨rfl, rfl, Nat.le_of_ble_eq_true rfl, Nat.le_of_ble_eq_true rfl⟩ rfl hl.1 rfl (Nat.le_of_ble_eq_true rfl) dX11_say_208 ⟨Nat.le_of_ble_eq_true rfl, Nat.le_of_ble_eq_true rfl⟩) (fun u24 H locs hp24 hW => ?_)
                      have hW : WB g A s.heap H locs ((hv J [] [(3, 1), (3, 2), (3, 3), (27, 0), (27, 2)] u23.1), L, (hv (hv (up3 (up3 (up3 (up3 (up3 (up3 (up3 (up3 (up3 (clr I 9 q17 0) 9 4 q17 (-9)) 9 6 q17 (-9)) 9 0 q17 (J 3 1)) 9 1 q17 u18) 9 2 q17 a0) 9 3 q17 (J 4 4)) 9 4 q17 a1) 9 5 q17 x19) 9 6 q17 (-9)) [] [] u23.2.1) [] [(7, 1), (7, 2)] u24), (hv (clr P 9 q17 none) [37] [] u23.2.2.1), (hv1 E [27] u23.2.2.2.1), u23.2.2.2.2.1) (sgX g ++ u23.2.2.2.2.2) := hW
                      refine lv_aload_n hx hb dX11_say_211 rfl (lv_at hl 3 rfl) ?_
                      refine lv_iload_n hx hb dX11_say_212 rfl (lv_at hl 4 rfl) ?_
                      refine lv_iload_n hx hb dX11_say_213 rfl (lv_at hl 6 rfl) ?_
                      refine lv_iload hx hb dX11_say_214 (lv_at hl 1 rfl) ?_
                      refine cv_ C hW (runV (x := (g.2.2.1 12)) (As := [.int a0, .int a2, .int (J 3 1)]) (rest := []) (T := (((hv J [] [(3, 1), (3, 2), (3, 3), (27, 0), (27, 2)] u23.1), L, (hv (hv (up3 (up3 (up3 (up3 (up3 (up3 (up3 (up3 (up3 (clr I 9 q17 0) 9 4 q17 (-9)) 9 6 q17 (-9)) 9 0 q17 (J 3 1)) 9 1 q17 u18) 9 2 q17 a0) 9 3 q17 (J 4 4)) 9 4 q17 a1) 9 5 q17 x19) 9 6 q17 (-9)) [] [] u23.2.1) [] [(7, 1), (7, 2)] u24), (hv (clr P 9 q17 none) [37] [] u23.2.2.1), (hv1 E [27] u23.2.2.2.1), u23.2.2.2.2.1), sgX g ++ u23.2.2.2.2.2)) C hW (c_X11_markRead l g (hv J [] [(3, 1), (3, 2), (3, 3), (27, 0), (27, 2)] u23.1) L (hv (hv (up3 (up3 (up3 (up3 (up3 (up3 (up3 (up3 (up3 (clr I 9 q17 0) 9 4 q17 (-9)) 9 6 q17 (-9)) 9 0 q17 (J 3 1)) 9 1 q17 u18) 9 2 q17 a0) 9 3 q17 (J 4 4)) 9 4 q17 a1) 9 5 q17 x19) 9 6 q17 (-9)) [] [] u23.2.1) [] [(7, 1), (7, 2)] u24) (hv (clr P 9 q17 none) [37] [] u23.2.2.1) (hv1 E [27] u23.2.2.2.1) u23.2.2.2.2.1 u23.2.2.2.2.2 H.size a0 a2 (J 3 1) hwf) mi_X11_markRead tw_700 (recv_ (T := (((hv J [] [(3, 1), (3, 2), (3, 3), (27, 0), (27, 2)] u23.1), L, (hv (hv (up3 (up3 (up3 (up3 (up3 (up3 (up3 (up3 (up3 (clr I 9 q17 0) 9 4 q17 (-9)) 9 6 q17 (-9)) 9 0 q17 (J 3 1)) 9 1 q17 u18) 9 2 q17 a0) 9 3 q17 (J 4 4)) 9 4 q17 a1) 9 5 q17 x19) 9 6 q17 (-9)) [] [] u23.2.1) [] [(7, 1), (7, 2)] u24), (hv (clr P 9 q17 none) [37] [] u23.2.2.1), (hv1 E [27] u23.2.2.2.1), u23.2.2.2.2.1), sgX g ++ u23.2.2.2.2.2)) C hW (mx_ rfl) rfl rfl) ⟨rfl, rfl, Nat.le_of_ble_eq_true rfl, Nat.le_of_ble_eq_true rfl⟩ rfl hl.1 rfl (Nat.le_of_ble_eq_true rfl) dX11_say_216 ⟨Nat.le_of_ble_eq_true rfl, Nat.le_of_ble_eq_true rfl⟩) (fun u25 H locs hp25 hW => ?_)
                      have hW : WB g A s.heap H locs ((hv J [] [(3, 1), (3, 2), (3, 3), (27, 0), (27, 2)] u23.1), L, (hv (hv (hv (up3 (up3 (up3 (up3 (up3 (up3 (up3 (up3 (up3 (clr I 9 q17 0) 9 4 q17 (-9)) 9 6 q17 (-9)) 9 0 q17 (J 3 1)) 9 1 q17 u18) 9 2 q17 a0) 9 3 q17 (J 4 4)) 9 4 q17 a1) 9 5 q17 x19) 9 6 q17 (-9)) [] [] u23.2.1) [] [(7, 1), (7, 2)] u24) [] [(5, 2)] u25), (hv (clr P 9 q17 none) [37] [] u23.2.2.1), (hv1 E [27] u23.2.2.2.1), u23.2.2.2.2.1) (sgX g ++ u23.2.2.2.2.2) := hW
                      refine lv_iload hx hb dX11_say_219 (lv_at hl 1 rfl) ?_
                      have hJe : (hv J [] [(3, 1), (3, 2), (3, 3), (27, 0), (27, 2)] u23.1) = hv J [42, 45] [(3, 1), (3, 2), (3, 3), (8, 1), (8, 2), (8, 3), (8, 4), (8, 5), (8, 6), (8, 7), (8, 8), (8, 9), (27, 0), (27, 2)] (hv J [] [(3, 1), (3, 2), (3, 3), (27, 0), (27, 2)] u23.1) := ag_hvE (J := J) (R := [42, 45]) (F := [(3, 1), (3, 2), (3, 3), (8, 1), (8, 2), (8, 3), (8, 4), (8, 5), (8, 6), (8, 7), (8, 8), (8, 9), (27, 0), (27, 2)]) (ag_hv rfl rfl ag_rf)
                      have hIe : (hv (hv (hv (up3 (up3 (up3 (up3 (up3 (up3 (up3 (up3 (up3 (clr I 9 q17 0) 9 4 q17 (-9)) 9 6 q17 (-9)) 9 0 q17 (J 3 1)) 9 1 q17 u18) 9 2 q17 a0) 9 3 q17 (J 4 4)) 9 4 q17 a1) 9 5 q17 x19) 9 6 q17 (-9)) [] [] u23.2.1) [] [(7, 1), (7, 2)] u24) [] [(5, 2)] u25) = hv I [9] [(5, 2), (7, 1), (7, 2)] (hv (hv (hv (up3 (up3 (up3 (up3 (up3 (up3 (up3 (up3 (up3 (clr I 9 q17 0) 9 4 q17 (-9)) 9 6 q17 (-9)) 9 0 q17 (J 3 1)) 9 1 q17 u18) 9 2 q17 a0) 9 3 q17 (J 4 4)) 9 4 q17 a1) 9 5 q17 x19) 9 6 q17 (-9)) [] [] u23.2.1) [] [(7, 1), (7, 2)] u24) [] [(5, 2)] u25) := ag_hvE (J := I) (R := [9]) (F := [(5, 2), (7, 1), (7, 2)]) (ag_hv rfl rfl (ag_hv rfl rfl (ag_hv rfl rfl (ag_up3 (Or.inl rfl) (ag_up3 (Or.inl rfl) (ag_up3 (Or.inl rfl) (ag_up3 (Or.inl rfl) (ag_up3 (Or.inl rfl) (ag_up3 (Or.inl rfl) (ag_up3 (Or.inl rfl) (ag_up3 (Or.inl rfl) (ag_up3 (Or.inl rfl) (ag_clr rfl ag_rf)))))))))))))
                      have hPe : (hv (clr P 9 q17 none) [37] [] u23.2.2.1) = hv P [9, 37] [] (hv (clr P 9 q17 none) [37] [] u23.2.2.1) := ag_hvE (J := P) (R := [9, 37]) (F := []) (ag_hv rfl rfl (ag_clr rfl ag_rf))
                      have hEe : (hv1 E [27] u23.2.2.2.1) = hv1 E [27] (hv1 E [27] u23.2.2.2.1) := hv1_e (R := [27]) (hv1_ag rfl (fun _ _ => rfl))
                      have hWr : WB g A s.heap H locs (hv J [42, 45] [(3, 1), (3, 2), (3, 3), (8, 1), (8, 2), (8, 3), (8, 4), (8, 5), (8, 6), (8, 7), (8, 8), (8, 9), (27, 0), (27, 2)] (hv J [] [(3, 1), (3, 2), (3, 3), (27, 0), (27, 2)] u23.1), L, hv I [9] [(5, 2), (7, 1), (7, 2)] (hv (hv (hv (up3 (up3 (up3 (up3 (up3 (up3 (up3 (up3 (up3 (clr I 9 q17 0) 9 4 q17 (-9)) 9 6 q17 (-9)) 9 0 q17 (J 3 1)) 9 1 q17 u18) 9 2 q17 a0) 9 3 q17 (J 4 4)) 9 4 q17 a1) 9 5 q17 x19) 9 6 q17 (-9)) [] [] u23.2.1) [] [(7, 1), (7, 2)] u24) [] [(5, 2)] u25), hv P [9, 37] [] (hv (clr P 9 q17 none) [37] [] u23.2.2.1), hv1 E [27] (hv1 E [27] u23.2.2.2.1), u23.2.2.2.2.1) (sgX g ++ u23.2.2.2.2.2) := by
                        rw [← hJe, ← hIe, ← hPe, ← hEe]; exact hW
                      have hwr : WXF g (hv J [42, 45] [(3, 1), (3, 2), (3, 3), (8, 1), (8, 2), (8, 3), (8, 4), (8, 5), (8, 6), (8, 7), (8, 8), (8, 9), (27, 0), (27, 2)] (hv J [] [(3, 1), (3, 2), (3, 3), (27, 0), (27, 2)] u23.1)) (hv P [9, 37] [] (hv (clr P 9 q17 none) [37] [] u23.2.2.1)) (hv1 E [27] (hv1 E [27] u23.2.2.2.1)) u23.2.2.2.2.1 u23.2.2.2.2.2 := by
                        rw [← hJe, ← hPe, ← hEe]; exact hwf
                      refine W.widen (k := 10) (n := 20100) (Nat.le_of_ble_eq_true rfl) (Nat.le_of_ble_eq_true rfl) ?_
                      exact end_i C hr hlocks ((hv J [] [(3, 1), (3, 2), (3, 3), (27, 0), (27, 2)] u23.1), (hv (hv (hv (up3 (up3 (up3 (up3 (up3 (up3 (up3 (up3 (up3 (clr I 9 q17 0) 9 4 q17 (-9)) 9 6 q17 (-9)) 9 0 q17 (J 3 1)) 9 1 q17 u18) 9 2 q17 a0) 9 3 q17 (J 4 4)) 9 4 q17 a1) 9 5 q17 x19) 9 6 q17 (-9)) [] [] u23.2.1) [] [(7, 1), (7, 2)] u24) [] [(5, 2)] u25), (hv (clr P 9 q17 none) [37] [] u23.2.2.1), (hv1 E [27] u23.2.2.2.1), u23.2.2.2.2.1, u23.2.2.2.2.2) hWr ⟨hwr, fun x hx => hd23 x ((fun x hx => List.mem_append_left _ ((fun x hx => hx) x hx)) x hx), show 0 ≤ (u23.1 3 1).toInt ∧ (u23.1 3 1).toInt ≤ 9999 ∧ (u23.1 27 2).toInt ≤ (u23.1 3 1).toInt from by first | omega | exact ⟨by omega, by omega, by omega⟩⟩ dX11_say_221
                    · have c21 : ¬ r20.toInt = 0 := tne rfl kp0 c21
                      refine lv_iload_n hx hb dX11_say_182 rfl (lv_at hl 6 rfl) ?_
                      refine lv_if_lt (tgt := 190) hx hb dX11_say_183 (by decide) (fun c26 => ?_) (fun c26 => ?_)
                      · have c26 : a2.toInt < 0 := tlt rfl kp0 c26
                        refine lv_bipush (v := (-9)) hx hb dX11_say_190 (by decide) ?_
                        refine rp_9_6 C hW (List.mem_append_right _ (List.mem_append_right _ (List.mem_singleton.mpr rfl))) tw_438 dX11_say_192 (fun H locs hW => ?_)
                        refine lv_aload_n hx hb dX11_say_195 rfl (lv_at hl 3 rfl) ?_
                        refine rg_12_1 C hW (mx_ rfl) tw_365 dX11_say_196 ?_
                        refine lv_aload hx hb dX11_say_199 (lv_at hl 0 rfl) ?_
                        have hi27 : (up3 (up3 (up3 (up3 (up3 (up3 (up3 (up3 (up3 (clr I 9 q17 0) 9 4 q17 (-9)) 9 6 q17 (-9)) 9 0 q17 (J 3 1)) 9 1 q17 u18) 9 2 q17 a0) 9 3 q17 (J 4 4)) 9 4 q17 a1) 9 5 q17 x19) 9 6 q17 (-9)) 9 1 q17 = u18 := (show (up3 (up3 (up3 (up3 (clr I 9 q17 0) 9 4 q17 (-9)) 9 6 q17 (-9)) 9 0 q17 (J 3 1)) 9 1 q17 u18) 9 1 q17 = _ from up3_s _ _ _ _ _)
                        refine cv_ C hW (runV (x := (g.2.2.1 3)) (As := [.ref q17]) (rest := []) (T := ((J, L, (up3 (up3 (up3 (up3 (up3 (up3 (up3 (up3 (up3 (clr I 9 q17 0) 9 4 q17 (-9)) 9 6 q17 (-9)) 9 0 q17 (J 3 1)) 9 1 q17 u18) 9 2 q17 a0) 9 3 q17 (J 4 4)) 9 4 q17 a1) 9 5 q17 x19) 9 6 q17 (-9)), (clr P 9 q17 none), E, N), sgX g ++ (dy ++ [(9, q17)]))) C hW (c_X2_goBy l g J L (up3 (up3 (up3 (up3 (up3 (up3 (up3 (up3 (up3 (clr I 9 q17 0) 9 4 q17 (-9)) 9 6 q17 (-9)) 9 0 q17 (J 3 1)) 9 1 q17 u18) 9 2 q17 a0) 9 3 q17 (J 4 4)) 9 4 q17 a1) 9 5 q17 x19) 9 6 q17 (-9)) (clr P 9 q17 none) E N (dy ++ [(9, q17)]) H.size q17 (List.mem_append_right _ (List.mem_singleton.mpr rfl)) hwf (show 0 ≤ (((up3 (up3 (up3 (up3 (up3 (up3 (up3 (up3 (up3 (clr I 9 q17 0) 9 4 q17 (-9)) 9 6 q17 (-9)) 9 0 q17 (J 3 1)) 9 1 q17 u18) 9 2 q17 a0) 9 3 q17 (J 4 4)) 9 4 q17 a1) 9 5 q17 x19) 9 6 q17 (-9)) 9 1 q17)).toInt ∧ (((up3 (up3 (up3 (up3 (up3 (up3 (up3 (up3 (up3 (clr I 9 q17 0) 9 4 q17 (-9)) 9 6 q17 (-9)) 9 0 q17 (J 3 1)) 9 1 q17 u18) 9 2 q17 a0) 9 3 q17 (J 4 4)) 9 4 q17 a1) 9 5 q17 x19) 9 6 q17 (-9)) 9 1 q17)).toInt ≤ 9998 from by rw [hi27]; omega) (show (J 27 2).toInt ≤ 9999 from by omega)) mi_X2_goBy tw_454 (recv_ (T := ((J, L, (up3 (up3 (up3 (up3 (up3 (up3 (up3 (up3 (up3 (clr I 9 q17 0) 9 4 q17 (-9)) 9 6 q17 (-9)) 9 0 q17 (J 3 1)) 9 1 q17 u18) 9 2 q17 a0) 9 3 q17 (J 4 4)) 9 4 q17 a1) 9 5 q17 x19) 9 6 q17 (-9)), (clr P 9 q17 none), E, N), sgX g ++ (dy ++ [(9, q17)]))) C hW (mx_ rfl) rfl rfl) ⟨rfl, rfl, Nat.le_of_ble_eq_true rfl, Nat.le_of_ble_eq_true rfl⟩ rfl hl.1 rfl (Nat.le_of_ble_eq_true rfl) dX11_say_201 ⟨Nat.le_of_ble_eq_true rfl, Nat.le_of_ble_eq_true rfl⟩) (fun u28 H locs hp28 hW => ?_)
                        have hW : WB g A s.heap H locs ((hv J [] [(3, 1), (3, 2), (3, 3), (27, 0), (27, 2)] u28.1), L, (hv (up3 (up3 (up3 (up3 (up3 (up3 (up3 (up3 (up3 (clr I 9 q17 0) 9 4 q17 (-9)) 9 6 q17 (-9)) 9 0 q17 (J 3 1)) 9 1 q17 u18) 9 2 q17 a0) 9 3 q17 (J 4 4)) 9 4 q17 a1) 9 5 q17 x19) 9 6 q17 (-9)) [] [] u28.2.1), (hv (clr P 9 q17 none) [37] [] u28.2.2.1), (hv1 E [27] u28.2.2.2.1), u28.2.2.2.2.1) (sgX g ++ u28.2.2.2.2.2) := hW
                        obtain ⟨hwf, hd28, hf28_0, hf28_1⟩ : WXF g (hv J [] [(3, 1), (3, 2), (3, 3), (27, 0), (27, 2)] u28.1) (hv (clr P 9 q17 none) [37] [] u28.2.2.1) (hv1 E [27] u28.2.2.2.1) u28.2.2.2.2.1 u28.2.2.2.2.2 ∧ (∀ x ∈ (dy ++ [(9, q17)]), x ∈ u28.2.2.2.2.2) ∧ ((u28.1 3 1).toInt = (((up3 (up3 (up3 (up3 (up3 (up3 (up3 (up3 (up3 (clr I 9 q17 0) 9 4 q17 (-9)) 9 6 q17 (-9)) 9 0 q17 (J 3 1)) 9 1 q17 u18) 9 2 q17 a0) 9 3 q17 (J 4 4)) 9 4 q17 a1) 9 5 q17 x19) 9 6 q17 (-9)) 9 1 q17)).toInt + 1) ∧ ((u28.1 27 2).toInt = (J 27 2).toInt + 1) := hp28
                        rw [hi27] at hf28_0
                        refine lv_aload hx hb dX11_say_204 (lv_at hl 2 rfl) ?_
                        refine lv_iload hx hb dX11_say_206 (lv_at hl 1 rfl) ?_
                        refine cv_ C hW (runV (x := o6) (As := [.int (J 3 1)]) (rest := []) (T := (((hv J [] [(3, 1), (3, 2), (3, 3), (27, 0), (27, 2)] u28.1), L, (hv (up3 (up3 (up3 (up3 (up3 (up3 (up3 (up3 (up3 (clr I 9 q17 0) 9 4 q17 (-9)) 9 6 q17 (-9)) 9 0 q17 (J 3 1)) 9 1 q17 u18) 9 2 q17 a0) 9 3 q17 (J 4 4)) 9 4 q17 a1) 9 5 q17 x19) 9 6 q17 (-9)) [] [] u28.2.1), (hv (clr P 9 q17 none) [37] [] u28.2.2.1), (hv1 E [27] u28.2.2.2.1), u28.2.2.2.2.1), sgX g ++ u28.2.2.2.2.2)) C hW (c_X6_readIn l g (hv J [] [(3, 1), (3, 2), (3, 3), (27, 0), (27, 2)] u28.1) L (hv (up3 (up3 (up3 (up3 (up3 (up3 (up3 (up3 (up3 (clr I 9 q17 0) 9 4 q17 (-9)) 9 6 q17 (-9)) 9 0 q17 (J 3 1)) 9 1 q17 u18) 9 2 q17 a0) 9 3 q17 (J 4 4)) 9 4 q17 a1) 9 5 q17 x19) 9 6 q17 (-9)) [] [] u28.2.1) (hv (clr P 9 q17 none) [37] [] u28.2.2.1) (hv1 E [27] u28.2.2.2.1) u28.2.2.2.2.1 u28.2.2.2.2.2 H.size o6 (hd28 _ (List.mem_append_left _ hm6)) (J 3 1) hwf) mi_X6_readIn tw_696 (recv_ (T := (((hv J [] [(3, 1), (3, 2), (3, 3), (27, 0), (27, 2)] u28.1), L, (hv (up3 (up3 (up3 (up3 (up3 (up3 (up3 (up3 (up3 (clr I 9 q17 0) 9 4 q17 (-9)) 9 6 q17 (-9)) 9 0 q17 (J 3 1)) 9 1 q17 u18) 9 2 q17 a0) 9 3 q17 (J 4 4)) 9 4 q17 a1) 9 5 q17 x19) 9 6 q17 (-9)) [] [] u28.2.1), (hv (clr P 9 q17 none) [37] [] u28.2.2.1), (hv1 E [27] u28.2.2.2.1), u28.2.2.2.2.1), sgX g ++ u28.2.2.2.2.2)) C hW (List.mem_append_right _ (hd28 _ (List.mem_append_left _ hm6))) rfl rfl) ⟨rfl, rfl, Nat.le_of_ble_eq_true rfl, Nat.le_of_ble_eq_true rfl⟩ rfl hl.1 rfl (Nat.le_of_ble_eq_true rfl) dX11_say_208 ⟨Nat.le_of_ble_eq_true rfl, Nat.le_of_ble_eq_true rfl⟩) (fun u29 H locs hp29 hW => ?_)
                        have hW : WB g A s.heap H locs ((hv J [] [(3, 1), (3, 2), (3, 3), (27, 0), (27, 2)] u28.1), L, (hv (hv (up3 (up3 (up3 (up3 (up3 (up3 (up3 (up3 (up3 (clr I 9 q17 0) 9 4 q17 (-9)) 9 6 q17 (-9)) 9 0 q17 (J 3 1)) 9 1 q17 u18) 9 2 q17 a0) 9 3 q17 (J 4 4)) 9 4 q17 a1) 9 5 q17 x19) 9 6 q17 (-9)) [] [] u28.2.1) [] [(7, 1), (7, 2)] u29), (hv (clr P 9 q17 none) [37] [] u28.2.2.1), (hv1 E [27] u28.2.2.2.1), u28.2.2.2.2.1) (sgX g ++ u28.2.2.2.2.2) := hW
                        refine lv_aload_n hx hb dX11_say_211 rfl (lv_at hl 3 rfl) ?_
                        refine lv_iload_n hx hb dX11_say_212 rfl (lv_at hl 4 rfl) ?_
                        refine lv_iload_n hx hb dX11_say_213 rfl (lv_at hl 6 rfl) ?_
                        refine lv_iload hx hb dX11_say_214 (lv_at hl 1 rfl) ?_
                        refine cv_ C hW (runV (x := (g.2.2.1 12)) (As := [.int a0, .int a2, .int (J 3 1)]) (rest := []) (T := (((hv J [] [(3, 1), (3, 2), (3, 3), (27, 0), (27, 2)] u28.1), L, (hv (hv (up3 (up3 (up3 (up3 (up3 (up3 (up3 (up3 (up3 (clr I 9 q17 0) 9 4 q17 (-9)) 9 6 q17 (-9)) 9 0 q17 (J 3 1)) 9 1 q17 u18) 9 2 q17 a0) 9 3 q17 (J 4 4)) 9 4 q17 a1) 9 5 q17 x19) 9 6 q17 (-9)) [] [] u28.2.1) [] [(7, 1), (7, 2)] u29), (hv (clr P 9 q17 none) [37] [] u28.2.2.1), (hv1 E [27] u28.2.2.2.1), u28.2.2.2.2.1), sgX g ++ u28.2.2.2.2.2)) C hW (c_X11_markRead l g (hv J [] [(3, 1), (3, 2), (3, 3), (27, 0), (27, 2)] u28.1) L (hv (hv (up3 (up3 (up3 (up3 (up3 (up3 (up3 (up3 (up3 (clr I 9 q17 0) 9 4 q17 (-9)) 9 6 q17 (-9)) 9 0 q17 (J 3 1)) 9 1 q17 u18) 9 2 q17 a0) 9 3 q17 (J 4 4)) 9 4 q17 a1) 9 5 q17 x19) 9 6 q17 (-9)) [] [] u28.2.1) [] [(7, 1), (7, 2)] u29) (hv (clr P 9 q17 none) [37] [] u28.2.2.1) (hv1 E [27] u28.2.2.2.1) u28.2.2.2.2.1 u28.2.2.2.2.2 H.size a0 a2 (J 3 1) hwf) mi_X11_markRead tw_700 (recv_ (T := (((hv J [] [(3, 1), (3, 2), (3, 3), (27, 0), (27, 2)] u28.1), L, (hv (hv (up3 (up3 (up3 (up3 (up3 (up3 (up3 (up3 (up3 (clr I 9 q17 0) 9 4 q17 (-9)) 9 6 q17 (-9)) 9 0 q17 (J 3 1)) 9 1 q17 u18) 9 2 q17 a0) 9 3 q17 (J 4 4)) 9 4 q17 a1) 9 5 q17 x19) 9 6 q17 (-9)) [] [] u28.2.1) [] [(7, 1), (7, 2)] u29), (hv (clr P 9 q17 none) [37] [] u28.2.2.1), (hv1 E [27] u28.2.2.2.1), u28.2.2.2.2.1), sgX g ++ u28.2.2.2.2.2)) C hW (mx_ rfl) rfl rfl) ⟨rfl, rfl, Nat.le_of_ble_eq_true rfl, Nat.le_of_ble_eq_true rfl⟩ rfl hl.1 rfl (Nat.le_of_ble_eq_true rfl) dX11_say_216 ⟨Nat.le_of_ble_eq_true rfl, Nat.le_of_ble_eq_true rfl⟩) (fun u30 H locs hp30 hW => ?_)
                        have hW : WB g A s.heap H locs ((hv J [] [(3, 1), (3, 2), (3, 3), (27, 0), (27, 2)] u28.1), L, (hv (hv (hv (up3 (up3 (up3 (up3 (up3 (up3 (up3 (up3 (up3 (clr I 9 q17 0) 9 4 q17 (-9)) 9 6 q17 (-9)) 9 0 q17 (J 3 1)) 9 1 q17 u18) 9 2 q17 a0) 9 3 q17 (J 4 4)) 9 4 q17 a1) 9 5 q17 x19) 9 6 q17 (-9)) [] [] u28.2.1) [] [(7, 1), (7, 2)] u29) [] [(5, 2)] u30), (hv (clr P 9 q17 none) [37] [] u28.2.2.1), (hv1 E [27] u28.2.2.2.1), u28.2.2.2.2.1) (sgX g ++ u28.2.2.2.2.2) := hW
                        refine lv_iload hx hb dX11_say_219 (lv_at hl 1 rfl) ?_
                        have hJe : (hv J [] [(3, 1), (3, 2), (3, 3), (27, 0), (27, 2)] u28.1) = hv J [42, 45] [(3, 1), (3, 2), (3, 3), (8, 1), (8, 2), (8, 3), (8, 4), (8, 5), (8, 6), (8, 7), (8, 8), (8, 9), (27, 0), (27, 2)] (hv J [] [(3, 1), (3, 2), (3, 3), (27, 0), (27, 2)] u28.1) := ag_hvE (J := J) (R := [42, 45]) (F := [(3, 1), (3, 2), (3, 3), (8, 1), (8, 2), (8, 3), (8, 4), (8, 5), (8, 6), (8, 7), (8, 8), (8, 9), (27, 0), (27, 2)]) (ag_hv rfl rfl ag_rf)
                        have hIe : (hv (hv (hv (up3 (up3 (up3 (up3 (up3 (up3 (up3 (up3 (up3 (clr I 9 q17 0) 9 4 q17 (-9)) 9 6 q17 (-9)) 9 0 q17 (J 3 1)) 9 1 q17 u18) 9 2 q17 a0) 9 3 q17 (J 4 4)) 9 4 q17 a1) 9 5 q17 x19) 9 6 q17 (-9)) [] [] u28.2.1) [] [(7, 1), (7, 2)] u29) [] [(5, 2)] u30) = hv I [9] [(5, 2), (7, 1), (7, 2)] (hv (hv (hv (up3 (up3 (up3 (up3 (up3 (up3 (up3 (up3 (up3 (clr I 9 q17 0) 9 4 q17 (-9)) 9 6 q17 (-9)) 9 0 q17 (J 3 1)) 9 1 q17 u18) 9 2 q17 a0) 9 3 q17 (J 4 4)) 9 4 q17 a1) 9 5 q17 x19) 9 6 q17 (-9)) [] [] u28.2.1) [] [(7, 1), (7, 2)] u29) [] [(5, 2)] u30) := ag_hvE (J := I) (R := [9]) (F := [(5, 2), (7, 1), (7, 2)]) (ag_hv rfl rfl (ag_hv rfl rfl (ag_hv rfl rfl (ag_up3 (Or.inl rfl) (ag_up3 (Or.inl rfl) (ag_up3 (Or.inl rfl) (ag_up3 (Or.inl rfl) (ag_up3 (Or.inl rfl) (ag_up3 (Or.inl rfl) (ag_up3 (Or.inl rfl) (ag_up3 (Or.inl rfl) (ag_up3 (Or.inl rfl) (ag_clr rfl ag_rf)))))))))))))
                        have hPe : (hv (clr P 9 q17 none) [37] [] u28.2.2.1) = hv P [9, 37] [] (hv (clr P 9 q17 none) [37] [] u28.2.2.1) := ag_hvE (J := P) (R := [9, 37]) (F := []) (ag_hv rfl rfl (ag_clr rfl ag_rf))
                        have hEe : (hv1 E [27] u28.2.2.2.1) = hv1 E [27] (hv1 E [27] u28.2.2.2.1) := hv1_e (R := [27]) (hv1_ag rfl (fun _ _ => rfl))
                        have hWr : WB g A s.heap H locs (hv J [42, 45] [(3, 1), (3, 2), (3, 3), (8, 1), (8, 2), (8, 3), (8, 4), (8, 5), (8, 6), (8, 7), (8, 8), (8, 9), (27, 0), (27, 2)] (hv J [] [(3, 1), (3, 2), (3, 3), (27, 0), (27, 2)] u28.1), L, hv I [9] [(5, 2), (7, 1), (7, 2)] (hv (hv (hv (up3 (up3 (up3 (up3 (up3 (up3 (up3 (up3 (up3 (clr I 9 q17 0) 9 4 q17 (-9)) 9 6 q17 (-9)) 9 0 q17 (J 3 1)) 9 1 q17 u18) 9 2 q17 a0) 9 3 q17 (J 4 4)) 9 4 q17 a1) 9 5 q17 x19) 9 6 q17 (-9)) [] [] u28.2.1) [] [(7, 1), (7, 2)] u29) [] [(5, 2)] u30), hv P [9, 37] [] (hv (clr P 9 q17 none) [37] [] u28.2.2.1), hv1 E [27] (hv1 E [27] u28.2.2.2.1), u28.2.2.2.2.1) (sgX g ++ u28.2.2.2.2.2) := by
                          rw [← hJe, ← hIe, ← hPe, ← hEe]; exact hW
                        have hwr : WXF g (hv J [42, 45] [(3, 1), (3, 2), (3, 3), (8, 1), (8, 2), (8, 3), (8, 4), (8, 5), (8, 6), (8, 7), (8, 8), (8, 9), (27, 0), (27, 2)] (hv J [] [(3, 1), (3, 2), (3, 3), (27, 0), (27, 2)] u28.1)) (hv P [9, 37] [] (hv (clr P 9 q17 none) [37] [] u28.2.2.1)) (hv1 E [27] (hv1 E [27] u28.2.2.2.1)) u28.2.2.2.2.1 u28.2.2.2.2.2 := by
                          rw [← hJe, ← hPe, ← hEe]; exact hwf
                        refine W.widen (k := 10) (n := 20100) (Nat.le_of_ble_eq_true rfl) (Nat.le_of_ble_eq_true rfl) ?_
                        exact end_i C hr hlocks ((hv J [] [(3, 1), (3, 2), (3, 3), (27, 0), (27, 2)] u28.1), (hv (hv (hv (up3 (up3 (up3 (up3 (up3 (up3 (up3 (up3 (up3 (clr I 9 q17 0) 9 4 q17 (-9)) 9 6 q17 (-9)) 9 0 q17 (J 3 1)) 9 1 q17 u18) 9 2 q17 a0) 9 3 q17 (J 4 4)) 9 4 q17 a1) 9 5 q17 x19) 9 6 q17 (-9)) [] [] u28.2.1) [] [(7, 1), (7, 2)] u29) [] [(5, 2)] u30), (hv (clr P 9 q17 none) [37] [] u28.2.2.1), (hv1 E [27] u28.2.2.2.1), u28.2.2.2.2.1, u28.2.2.2.2.2) hWr ⟨hwr, fun x hx => hd28 x ((fun x hx => List.mem_append_left _ ((fun x hx => hx) x hx)) x hx), show 0 ≤ (u28.1 3 1).toInt ∧ (u28.1 3 1).toInt ≤ 9999 ∧ (u28.1 27 2).toInt ≤ (u28.1 3 1).toInt from by first | omega | exact ⟨by omega, by omega, by omega⟩⟩ dX11_say_221
                      · have c26 : 0 ≤ a2.toInt := tnlt rfl kp0 c26
                        refine lv_iload_n hx hb dX11_say_186 rfl (lv_at hl 6 rfl) ?_
                        refine lv_goto (tgt := 192) hx hb dX11_say_187 (by decide) ?_
                        refine rp_9_6 C hW (List.mem_append_right _ (List.mem_append_right _ (List.mem_singleton.mpr rfl))) tw_438 dX11_say_192 (fun H locs hW => ?_)
                        refine lv_aload_n hx hb dX11_say_195 rfl (lv_at hl 3 rfl) ?_
                        refine rg_12_1 C hW (mx_ rfl) tw_365 dX11_say_196 ?_
                        refine lv_aload hx hb dX11_say_199 (lv_at hl 0 rfl) ?_
                        have hi31 : (up3 (up3 (up3 (up3 (up3 (up3 (up3 (up3 (up3 (clr I 9 q17 0) 9 4 q17 (-9)) 9 6 q17 (-9)) 9 0 q17 (J 3 1)) 9 1 q17 u18) 9 2 q17 a0) 9 3 q17 (J 4 4)) 9 4 q17 a1) 9 5 q17 x19) 9 6 q17 a2) 9 1 q17 = u18 := (show (up3 (up3 (up3 (up3 (clr I 9 q17 0) 9 4 q17 (-9)) 9 6 q17 (-9)) 9 0 q17 (J 3 1)) 9 1 q17 u18) 9 1 q17 = _ from up3_s _ _ _ _ _)
                        refine cv_ C hW (runV (x := (g.2.2.1 3)) (As := [.ref q17]) (rest := []) (T := ((J, L, (up3 (up3 (up3 (up3 (up3 (up3 (up3 (up3 (up3 (clr I 9 q17 0) 9 4 q17 (-9)) 9 6 q17 (-9)) 9 0 q17 (J 3 1)) 9 1 q17 u18) 9 2 q17 a0) 9 3 q17 (J 4 4)) 9 4 q17 a1) 9 5 q17 x19) 9 6 q17 a2), (clr P 9 q17 none), E, N), sgX g ++ (dy ++ [(9, q17)]))) C hW (c_X2_goBy l g J L (up3 (up3 (up3 (up3 (up3 (up3 (up3 (up3 (up3 (clr I 9 q17 0) 9 4 q17 (-9)) 9 6 q17 (-9)) 9 0 q17 (J 3 1)) 9 1 q17 u18) 9 2 q17 a0) 9 3 q17 (J 4 4)) 9 4 q17 a1) 9 5 q17 x19) 9 6 q17 a2) (clr P 9 q17 none) E N (dy ++ [(9, q17)]) H.size q17 (List.mem_append_right _ (List.mem_singleton.mpr rfl)) hwf (show 0 ≤ (((up3 (up3 (up3 (up3 (up3 (up3 (up3 (up3 (up3 (clr I 9 q17 0) 9 4 q17 (-9)) 9 6 q17 (-9)) 9 0 q17 (J 3 1)) 9 1 q17 u18) 9 2 q17 a0) 9 3 q17 (J 4 4)) 9 4 q17 a1) 9 5 q17 x19) 9 6 q17 a2) 9 1 q17)).toInt ∧ (((up3 (up3 (up3 (up3 (up3 (up3 (up3 (up3 (up3 (clr I 9 q17 0) 9 4 q17 (-9)) 9 6 q17 (-9)) 9 0 q17 (J 3 1)) 9 1 q17 u18) 9 2 q17 a0) 9 3 q17 (J 4 4)) 9 4 q17 a1) 9 5 q17 x19) 9 6 q17 a2) 9 1 q17)).toInt ≤ 9998 from by rw [hi31]; omega) (show (J 27 2).toInt ≤ 9999 from by omega)) mi_X2_goBy tw_454 (recv_ (T := ((J, L, (up3 (up3 (up3 (up3 (up3 (up3 (up3 (up3 (up3 (clr I 9 q17 0) 9 4 q17 (-9)) 9 6 q17 (-9)) 9 0 q17 (J 3 1)) 9 1 q17 u18) 9 2 q17 a0) 9 3 q17 (J 4 4)) 9 4 q17 a1) 9 5 q17 x19) 9 6 q17 a2), (clr P 9 q17 none), E, N), sgX g ++ (dy ++ [(9, q17)]))) C hW (mx_ rfl) rfl rfl) ⟨rfl, rfl, Nat.le_of_ble_eq_true rfl, Nat.le_of_ble_eq_true rfl⟩ rfl hl.1 rfl (Nat.le_of_ble_eq_true rfl) dX11_say_201 ⟨Nat.le_of_ble_eq_true rfl, Nat.le_of_ble_eq_true rfl⟩) (fun u32 H locs hp32 hW => ?_)
                        have hW : WB g A s.heap H locs ((hv J [] [(3, 1), (3, 2), (3, 3), (27, 0), (27, 2)] u32.1), L, (hv (up3 (up3 (up3 (up3 (up3 (up3 (up3 (up3 (up3 (clr I 9 q17 0) 9 4 q17 (-9)) 9 6 q17 (-9)) 9 0 q17 (J 3 1)) 9 1 q17 u18) 9 2 q17 a0) 9 3 q17 (J 4 4)) 9 4 q17 a1) 9 5 q17 x19) 9 6 q17 a2) [] [] u32.2.1), (hv (clr P 9 q17 none) [37] [] u32.2.2.1), (hv1 E [27] u32.2.2.2.1), u32.2.2.2.2.1) (sgX g ++ u32.2.2.2.2.2) := hW
                        obtain ⟨hwf, hd32, hf32_0, hf32_1⟩ : WXF g (hv J [] [(3, 1), (3, 2), (3, 3), (27, 0), (27, 2)] u32.1) (hv (clr P 9 q17 none) [37] [] u32.2.2.1) (hv1 E [27] u32.2.2.2.1) u32.2.2.2.2.1 u32.2.2.2.2.2 ∧ (∀ x ∈ (dy ++ [(9, q17)]), x ∈ u32.2.2.2.2.2) ∧ ((u32.1 3 1).toInt = (((up3 (up3 (up3 (up3 (up3 (up3 (up3 (up3 (up3 (clr I 9 q17 0) 9 4 q17 (-9)) 9 6 q17 (-9)) 9 0 q17 (J 3 1)) 9 1 q17 u18) 9 2 q17 a0) 9 3 q17 (J 4 4)) 9 4 q17 a1) 9 5 q17 x19) 9 6 q17 a2) 9 1 q17)).toInt + 1) ∧ ((u32.1 27 2).toInt = (J 27 2).toInt + 1) := hp32
                        rw [hi31] at hf32_0
                        refine lv_aload hx hb dX11_say_204 (lv_at hl 2 rfl) ?_
                        refine lv_iload hx hb dX11_say_206 (lv_at hl 1 rfl) ?_
                        refine cv_ C hW (runV (x := o6) (As := [.int (J 3 1)]) (rest := []) (T := (((hv J [] [(3, 1), (3, 2), (3, 3), (27, 0), (27, 2)] u32.1), L, (hv (up3 (up3 (up3 (up3 (up3 (up3 (up3 (up3 (up3 (clr I 9 q17 0) 9 4 q17 (-9)) 9 6 q17 (-9)) 9 0 q17 (J 3 1)) 9 1 q17 u18) 9 2 q17 a0) 9 3 q17 (J 4 4)) 9 4 q17 a1) 9 5 q17 x19) 9 6 q17 a2) [] [] u32.2.1), (hv (clr P 9 q17 none) [37] [] u32.2.2.1), (hv1 E [27] u32.2.2.2.1), u32.2.2.2.2.1), sgX g ++ u32.2.2.2.2.2)) C hW (c_X6_readIn l g (hv J [] [(3, 1), (3, 2), (3, 3), (27, 0), (27, 2)] u32.1) L (hv (up3 (up3 (up3 (up3 (up3 (up3 (up3 (up3 (up3 (clr I 9 q17 0) 9 4 q17 (-9)) 9 6 q17 (-9)) 9 0 q17 (J 3 1)) 9 1 q17 u18) 9 2 q17 a0) 9 3 q17 (J 4 4)) 9 4 q17 a1) 9 5 q17 x19) 9 6 q17 a2) [] [] u32.2.1) (hv (clr P 9 q17 none) [37] [] u32.2.2.1) (hv1 E [27] u32.2.2.2.1) u32.2.2.2.2.1 u32.2.2.2.2.2 H.size o6 (hd32 _ (List.mem_append_left _ hm6)) (J 3 1) hwf) mi_X6_readIn tw_696 (recv_ (T := (((hv J [] [(3, 1), (3, 2), (3, 3), (27, 0), (27, 2)] u32.1), L, (hv (up3 (up3 (up3 (up3 (up3 (up3 (up3 (up3 (up3 (clr I 9 q17 0) 9 4 q17 (-9)) 9 6 q17 (-9)) 9 0 q17 (J 3 1)) 9 1 q17 u18) 9 2 q17 a0) 9 3 q17 (J 4 4)) 9 4 q17 a1) 9 5 q17 x19) 9 6 q17 a2) [] [] u32.2.1), (hv (clr P 9 q17 none) [37] [] u32.2.2.1), (hv1 E [27] u32.2.2.2.1), u32.2.2.2.2.1), sgX g ++ u32.2.2.2.2.2)) C hW (List.mem_append_right _ (hd32 _ (List.mem_append_left _ hm6))) rfl rfl) ⟨rfl, rfl, Nat.le_of_ble_eq_true rfl, Nat.le_of_ble_eq_true rfl⟩ rfl hl.1 rfl (Nat.le_of_ble_eq_true rfl) dX11_say_208 ⟨Nat.le_of_ble_eq_true rfl, Nat.le_of_ble_eq_true rfl⟩) (fun u33 H locs hp33 hW => ?_)
                        have hW : WB g A s.heap H locs ((hv J [] [(3, 1), (3, 2), (3, 3), (27, 0), (27, 2)] u32.1), L, (hv (hv (up3 (up3 (up3 (up3 (up3 (up3 (up3 (up3 (up3 (clr I 9 q17 0) 9 4 q17 (-9)) 9 6 q17 (-9)) 9 0 q17 (J 3 1)) 9 1 q17 u18) 9 2 q17 a0) 9 3 q17 (J 4 4)) 9 4 q17 a1) 9 5 q17 x19) 9 6 q17 a2) [] [] u32.2.1) [] [(7, 1), (7, 2)] u33), (hv (clr P 9 q17 none) [37] [] u32.2.2.1), (hv1 E [27] u32.2.2.2.1), u32.2.2.2.2.1) (sgX g ++ u32.2.2.2.2.2) := hW
                        refine lv_aload_n hx hb dX11_say_211 rfl (lv_at hl 3 rfl) ?_
                        refine lv_iload_n hx hb dX11_say_212 rfl (lv_at hl 4 rfl) ?_
                        refine lv_iload_n hx hb dX11_say_213 rfl (lv_at hl 6 rfl) ?_
                        refine lv_iload hx hb dX11_say_214 (lv_at hl 1 rfl) ?_
                        refine cv_ C hW (runV (x := (g.2.2.1 12)) (As := [.int a0, .int a2, .int (J 3 1)]) (rest := []) (T := (((hv J [] [(3, 1), (3, 2), (3, 3), (27, 0), (27, 2)] u32.1), L, (hv (hv (up3 (up3 (up3 (up3 (up3 (up3 (up3 (up3 (up3 (clr I 9 q17 0) 9 4 q17 (-9)) 9 6 q17 (-9)) 9 0 q17 (J 3 1)) 9 1 q17 u18) 9 2 q17 a0) 9 3 q17 (J 4 4)) 9 4 q17 a1) 9 5 q17 x19) 9 6 q17 a2) [] [] u32.2.1) [] [(7, 1), (7, 2)] u33), (hv (clr P 9 q17 none) [37] [] u32.2.2.1), (hv1 E [27] u32.2.2.2.1), u32.2.2.2.2.1), sgX g ++ u32.2.2.2.2.2)) C hW (c_X11_markRead l g (hv J [] [(3, 1), (3, 2), (3, 3), (27, 0), (27, 2)] u32.1) L (hv (hv (up3 (up3 (up3 (up3 (up3 (up3 (up3 (up3 (up3 (clr I 9 q17 0) 9 4 q17 (-9)) 9 6 q17 (-9)) 9 0 q17 (J 3 1)) 9 1 q17 u18) 9 2 q17 a0) 9 3 q17 (J 4 4)) 9 4 q17 a1) 9 5 q17 x19) 9 6 q17 a2) [] [] u32.2.1) [] [(7, 1), (7, 2)] u33) (hv (clr P 9 q17 none) [37] [] u32.2.2.1) (hv1 E [27] u32.2.2.2.1) u32.2.2.2.2.1 u32.2.2.2.2.2 H.size a0 a2 (J 3 1) hwf) mi_X11_markRead tw_700 (recv_ (T := (((hv J [] [(3, 1), (3, 2), (3, 3), (27, 0), (27, 2)] u32.1), L, (hv (hv (up3 (up3 (up3 (up3 (up3 (up3 (up3 (up3 (up3 (clr I 9 q17 0) 9 4 q17 (-9)) 9 6 q17 (-9)) 9 0 q17 (J 3 1)) 9 1 q17 u18) 9 2 q17 a0) 9 3 q17 (J 4 4)) 9 4 q17 a1) 9 5 q17 x19) 9 6 q17 a2) [] [] u32.2.1) [] [(7, 1), (7, 2)] u33), (hv (clr P 9 q17 none) [37] [] u32.2.2.1), (hv1 E [27] u32.2.2.2.1), u32.2.2.2.2.1), sgX g ++ u32.2.2.2.2.2)) C hW (mx_ rfl) rfl rfl) ⟨rfl, rfl, Nat.le_of_ble_eq_true rfl, Nat.le_of_ble_eq_true rfl⟩ rfl hl.1 rfl (Nat.le_of_ble_eq_true rfl) dX11_say_216 ⟨Nat.le_of_ble_eq_true rfl, Nat.le_of_ble_eq_true rfl⟩) (fun u34 H locs hp34 hW => ?_)
                        have hW : WB g A s.heap H locs ((hv J [] [(3, 1), (3, 2), (3, 3), (27, 0), (27, 2)] u32.1), L, (hv (hv (hv (up3 (up3 (up3 (up3 (up3 (up3 (up3 (up3 (up3 (clr I 9 q17 0) 9 4 q17 (-9)) 9 6 q17 (-9)) 9 0 q17 (J 3 1)) 9 1 q17 u18) 9 2 q17 a0) 9 3 q17 (J 4 4)) 9 4 q17 a1) 9 5 q17 x19) 9 6 q17 a2) [] [] u32.2.1) [] [(7, 1), (7, 2)] u33) [] [(5, 2)] u34), (hv (clr P 9 q17 none) [37] [] u32.2.2.1), (hv1 E [27] u32.2.2.2.1), u32.2.2.2.2.1) (sgX g ++ u32.2.2.2.2.2) := hW
                        refine lv_iload hx hb dX11_say_219 (lv_at hl 1 rfl) ?_
                        have hJe : (hv J [] [(3, 1), (3, 2), (3, 3), (27, 0), (27, 2)] u32.1) = hv J [42, 45] [(3, 1), (3, 2), (3, 3), (8, 1), (8, 2), (8, 3), (8, 4), (8, 5), (8, 6), (8, 7), (8, 8), (8, 9), (27, 0), (27, 2)] (hv J [] [(3, 1), (3, 2), (3, 3), (27, 0), (27, 2)] u32.1) := ag_hvE (J := J) (R := [42, 45]) (F := [(3, 1), (3, 2), (3, 3), (8, 1), (8, 2), (8, 3), (8, 4), (8, 5), (8, 6), (8, 7), (8, 8), (8, 9), (27, 0), (27, 2)]) (ag_hv rfl rfl ag_rf)
                        have hIe : (hv (hv (hv (up3 (up3 (up3 (up3 (up3 (up3 (up3 (up3 (up3 (clr I 9 q17 0) 9 4 q17 (-9)) 9 6 q17 (-9)) 9 0 q17 (J 3 1)) 9 1 q17 u18) 9 2 q17 a0) 9 3 q17 (J 4 4)) 9 4 q17 a1) 9 5 q17 x19) 9 6 q17 a2) [] [] u32.2.1) [] [(7, 1), (7, 2)] u33) [] [(5, 2)] u34) = hv I [9] [(5, 2), (7, 1), (7, 2)] (hv (hv (hv (up3 (up3 (up3 (up3 (up3 (up3 (up3 (up3 (up3 (clr I 9 q17 0) 9 4 q17 (-9)) 9 6 q17 (-9)) 9 0 q17 (J 3 1)) 9 1 q17 u18) 9 2 q17 a0) 9 3 q17 (J 4 4)) 9 4 q17 a1) 9 5 q17 x19) 9 6 q17 a2) [] [] u32.2.1) [] [(7, 1), (7, 2)] u33) [] [(5, 2)] u34) := ag_hvE (J := I) (R := [9]) (F := [(5, 2), (7, 1), (7, 2)]) (ag_hv rfl rfl (ag_hv rfl rfl (ag_hv rfl rfl (ag_up3 (Or.inl rfl) (ag_up3 (Or.inl rfl) (ag_up3 (Or.inl rfl) (ag_up3 (Or.inl rfl) (ag_up3 (Or.inl rfl) (ag_up3 (Or.inl rfl) (ag_up3 (Or.inl rfl) (ag_up3 (Or.inl rfl) (ag_up3 (Or.inl rfl) (ag_clr rfl ag_rf)))))))))))))
                        have hPe : (hv (clr P 9 q17 none) [37] [] u32.2.2.1) = hv P [9, 37] [] (hv (clr P 9 q17 none) [37] [] u32.2.2.1) := ag_hvE (J := P) (R := [9, 37]) (F := []) (ag_hv rfl rfl (ag_clr rfl ag_rf))
                        have hEe : (hv1 E [27] u32.2.2.2.1) = hv1 E [27] (hv1 E [27] u32.2.2.2.1) := hv1_e (R := [27]) (hv1_ag rfl (fun _ _ => rfl))
                        have hWr : WB g A s.heap H locs (hv J [42, 45] [(3, 1), (3, 2), (3, 3), (8, 1), (8, 2), (8, 3), (8, 4), (8, 5), (8, 6), (8, 7), (8, 8), (8, 9), (27, 0), (27, 2)] (hv J [] [(3, 1), (3, 2), (3, 3), (27, 0), (27, 2)] u32.1), L, hv I [9] [(5, 2), (7, 1), (7, 2)] (hv (hv (hv (up3 (up3 (up3 (up3 (up3 (up3 (up3 (up3 (up3 (clr I 9 q17 0) 9 4 q17 (-9)) 9 6 q17 (-9)) 9 0 q17 (J 3 1)) 9 1 q17 u18) 9 2 q17 a0) 9 3 q17 (J 4 4)) 9 4 q17 a1) 9 5 q17 x19) 9 6 q17 a2) [] [] u32.2.1) [] [(7, 1), (7, 2)] u33) [] [(5, 2)] u34), hv P [9, 37] [] (hv (clr P 9 q17 none) [37] [] u32.2.2.1), hv1 E [27] (hv1 E [27] u32.2.2.2.1), u32.2.2.2.2.1) (sgX g ++ u32.2.2.2.2.2) := by
                          rw [← hJe, ← hIe, ← hPe, ← hEe]; exact hW
                        have hwr : WXF g (hv J [42, 45] [(3, 1), (3, 2), (3, 3), (8, 1), (8, 2), (8, 3), (8, 4), (8, 5), (8, 6), (8, 7), (8, 8), (8, 9), (27, 0), (27, 2)] (hv J [] [(3, 1), (3, 2), (3, 3), (27, 0), (27, 2)] u32.1)) (hv P [9, 37] [] (hv (clr P 9 q17 none) [37] [] u32.2.2.1)) (hv1 E [27] (hv1 E [27] u32.2.2.2.1)) u32.2.2.2.2.1 u32.2.2.2.2.2 := by
                          rw [← hJe, ← hPe, ← hEe]; exact hwf
                        refine W.widen (k := 10) (n := 20100) (Nat.le_of_ble_eq_true rfl) (Nat.le_of_ble_eq_true rfl) ?_
                        exact end_i C hr hlocks ((hv J [] [(3, 1), (3, 2), (3, 3), (27, 0), (27, 2)] u32.1), (hv (hv (hv (up3 (up3 (up3 (up3 (up3 (up3 (up3 (up3 (up3 (clr I 9 q17 0) 9 4 q17 (-9)) 9 6 q17 (-9)) 9 0 q17 (J 3 1)) 9 1 q17 u18) 9 2 q17 a0) 9 3 q17 (J 4 4)) 9 4 q17 a1) 9 5 q17 x19) 9 6 q17 a2) [] [] u32.2.1) [] [(7, 1), (7, 2)] u33) [] [(5, 2)] u34), (hv (clr P 9 q17 none) [37] [] u32.2.2.1), (hv1 E [27] u32.2.2.2.1), u32.2.2.2.2.1, u32.2.2.2.2.2) hWr ⟨hwr, fun x hx => hd32 x ((fun x hx => List.mem_append_left _ ((fun x hx => hx) x hx)) x hx), show 0 ≤ (u32.1 3 1).toInt ∧ (u32.1 3 1).toInt ≤ 9999 ∧ (u32.1 27 2).toInt ≤ (u32.1 3 1).toInt from by first | omega | exact ⟨by omega, by omega, by omega⟩⟩ dX11_say_221
                  · have c16 : 9999 ≤ (J 3 1).toInt := tnlt rfl kp9999 c16
                    refine lv_aload_n hx hb dX11_say_121 rfl (lv_at hl 1 rfl) ?_
                    refine lv_bipush (v := (-6)) hx hb dX11_say_122 (by decide) ?_
                    refine ci_ C hW (runV (x := (g.2.2.1 12)) (As := [.int (-6)]) (rest := []) (T := ((J, L, I, P, E, N), sgX g ++ dy)) C hW (c_X11_refuse l g J L I P E N dy H.size (-6) hwf) mi_X11_refuse tw_411 (recv_ (T := ((J, L, I, P, E, N), sgX g ++ dy)) C hW (mx_ rfl) rfl rfl) ⟨rfl, rfl, Nat.le_of_ble_eq_true rfl, Nat.le_of_ble_eq_true rfl⟩ rfl hl.1 rfl (Nat.le_of_ble_eq_true rfl) dX11_say_124 ⟨Nat.le_of_ble_eq_true rfl, Nat.le_of_ble_eq_true rfl⟩) (fun r35 u35 H locs hp35 hW => ?_)
                    have hc35 : ((r35 = (-6))) := hp35
                    clear hp35
                    have hr35 : r35.toInt = (-6) := by rw [hc35]; exact kn6
                    have hW : WB g A s.heap H locs ((hv J [42] [] u35), L, I, P, E, N) (sgX g ++ dy) := hW
                    have hJe : (hv J [42] [] u35) = hv J [42, 45] [(3, 1), (3, 2), (3, 3), (8, 1), (8, 2), (8, 3), (8, 4), (8, 5), (8, 6), (8, 7), (8, 8), (8, 9), (27, 0), (27, 2)] (hv J [42] [] u35) := ag_hvE (J := J) (R := [42, 45]) (F := [(3, 1), (3, 2), (3, 3), (8, 1), (8, 2), (8, 3), (8, 4), (8, 5), (8, 6), (8, 7), (8, 8), (8, 9), (27, 0), (27, 2)]) (ag_hv rfl rfl ag_rf)
                    have hIe : I = hv I [9] [(5, 2), (7, 1), (7, 2)] I := ag_hvE (J := I) (R := [9]) (F := [(5, 2), (7, 1), (7, 2)]) ag_rf
                    have hPe : P = hv P [9, 37] [] P := ag_hvE (J := P) (R := [9, 37]) (F := []) ag_rf
                    have hEe : E = hv1 E [27] E := hv1_e (R := [27]) (fun _ _ => rfl)
                    have hWr : WB g A s.heap H locs (hv J [42, 45] [(3, 1), (3, 2), (3, 3), (8, 1), (8, 2), (8, 3), (8, 4), (8, 5), (8, 6), (8, 7), (8, 8), (8, 9), (27, 0), (27, 2)] (hv J [42] [] u35), L, hv I [9] [(5, 2), (7, 1), (7, 2)] I, hv P [9, 37] [] P, hv1 E [27] E, N) (sgX g ++ dy) := by
                      rw [← hJe, ← hIe, ← hPe, ← hEe]; exact hW
                    have hwr : WXF g (hv J [42, 45] [(3, 1), (3, 2), (3, 3), (8, 1), (8, 2), (8, 3), (8, 4), (8, 5), (8, 6), (8, 7), (8, 8), (8, 9), (27, 0), (27, 2)] (hv J [42] [] u35)) (hv P [9, 37] [] P) (hv1 E [27] E) N dy := by
                      rw [← hJe, ← hPe, ← hEe]; exact hwf
                    refine W.widen (k := 10) (n := 20100) (Nat.le_of_ble_eq_true rfl) (Nat.le_of_ble_eq_true rfl) ?_
                    exact end_i C hr hlocks ((hv J [42] [] u35), I, P, E, N, dy) hWr ⟨hwr, fun x hx => hx, show 0 ≤ (J 3 1).toInt ∧ (J 3 1).toInt ≤ 9999 ∧ (J 27 2).toInt ≤ (J 3 1).toInt from by first | omega | exact ⟨by omega, by omega, by omega⟩⟩ dX11_say_127
                · have c15 : a0.toInt = 2 := teq rfl kp2 c15
                  refine lv_aload_n hx hb dX11_say_92 rfl (lv_at hl 1 rfl) ?_
                  refine lv_aload hx hb dX11_say_93 (lv_at hl 0 rfl) ?_
                  refine ci_ C hW (runV (x := (g.2.2.1 12)) (As := [.ref o6]) (rest := []) (T := ((J, L, I, P, E, N), sgX g ++ dy)) C hW (c_X11_mayBreak l g J L I P E N dy H.size o6 hm6 hwf) mi_X11_mayBreak tw_654 (recv_ (T := ((J, L, I, P, E, N), sgX g ++ dy)) C hW (mx_ rfl) rfl rfl) ⟨rfl, rfl, Nat.le_of_ble_eq_true rfl, Nat.le_of_ble_eq_true rfl⟩ rfl hl.1 rfl (Nat.le_of_ble_eq_true rfl) dX11_say_95 ⟨Nat.le_of_ble_eq_true rfl, Nat.le_of_ble_eq_true rfl⟩) (fun r36 u36 H locs hp36 hW => ?_)
                  have hc36 : ((r36.toInt = 1) ∨ (r36.toInt = 0)) := hp36
                  clear hp36
                  have hW : WB g A s.heap H locs ((hv J [45] [(8, 1), (8, 2), (8, 3), (8, 4), (8, 5), (8, 6), (8, 7), (8, 8), (8, 9)] u36), L, I, P, E, N) (sgX g ++ dy) := hW
                  refine lv_if_ne (tgt := 108) hx hb dX11_say_98 (by decide) (fun c37 => ?_) (fun c37 => ?_)
                  · have c37 : ¬ r36.toInt = 0 := tne rfl kp0 c37
                    refine lv_aload_n hx hb dX11_say_108 rfl (lv_at hl 1 rfl) ?_
                    refine rg_12_1 C hW (mx_ rfl) tw_365 dX11_say_109 ?_
                    refine rg_3_1 C hW (mx_ rfl) tw_278 dX11_say_112 ?_
                    refine lv_as (J 3 1) rfl ?_
                    refine lv_sipush (v := 9999) hx hb dX11_say_115 (by decide) ?_
                    refine lv_icmp_lt (tgt := 128) hx hb dX11_say_118 (by decide) (fun c38 => ?_) (fun c38 => ?_)
                    · have c38 : (J 3 1).toInt < 9999 := tlt rfl kp9999 c38
                      refine lv_aload_n hx hb dX11_say_128 rfl (lv_at hl 1 rfl) ?_
                      refine rg_12_1 C hW (mx_ rfl) tw_365 dX11_say_129 ?_
                      refine rg_3_1 C hW (mx_ rfl) tw_278 dX11_say_132 ?_
                      refine lv_as (J 3 1) rfl ?_
                      refine lv_istore (lv' := [(5, .int (J 3 1)), (4, .ref o6), (0, .ref (g.2.2.1 12)), (1, .int a0), (2, .int a1), (3, .int a2)]) hx hb dX11_say_135 hl (by decide) rfl (fun ls hl => ?_)
                      refine g_new (r := 9) (S' := fun q => ((hv J [45] [(8, 1), (8, 2), (8, 3), (8, 4), (8, 5), (8, 6), (8, 7), (8, 8), (8, 9)] u36), L, clr I 9 q 0, clr P 9 q none, E, N)) (ci := 9) (fs := [.int 0, .int 0, .int 0, .int 0, .int 0, .int 0, .int 0]) C hW rfl rfl in_X8 tyX8 tyX8_ok tw_415 tw_416 tw_81 (fun j hj => by rcases (show j = 0 ∨ j = 1 ∨ j = 2 ∨ j = 3 ∨ j = 4 ∨ j = 5 ∨ j = 6 by omega) with rfl | rfl | rfl | rfl | rfl | rfl | rfl <;> rfl) (fun q => by simp only [cel, celc, clr_s] <;> rfl) (fun q r' a h => cel_clr 9 q r' a h) ⟨Nat.le_of_ble_eq_true rfl, Nat.le_of_ble_eq_true rfl⟩ dX11_say_137 (fun q39 H hfr39 hW => ?_)
                      rw [List.append_assoc] at hW
                      have hW : WB g A s.heap H locs ((hv J [45] [(8, 1), (8, 2), (8, 3), (8, 4), (8, 5), (8, 6), (8, 7), (8, 8), (8, 9)] u36), L, (clr I 9 q39 0), (clr P 9 q39 none), E, N) (sgX g ++ (dy ++ [(9, q39)])) := hW
                      refine lv_dup hx hb dX11_say_140 rfl ?_
                      refine lv_iload hx hb dX11_say_141 (lv_at hl 0 rfl) ?_
                      refine lv_iconst (v := 1) hx hb dX11_say_143 (by decide) ?_
                      refine lv_iload_n hx hb dX11_say_144 rfl (lv_at hl 3 rfl) ?_
                      refine lv_aload_n hx hb dX11_say_145 rfl (lv_at hl 2 rfl) ?_
                      refine rg_12_0 C hW (mx_ rfl) tw_364 dX11_say_146 ?_
                      refine rg_4_4 C hW (mx_ rfl) tw_240 dX11_say_149 ?_
                      refine lv_as (J 4 4) rfl ?_
                      refine cv_ C hW (runI (x := q39) (As := [.int (J 3 1), .int 1, .int a0, .int (J 4 4)]) (rest := [.ref q39]) (T := (((hv J [45] [(8, 1), (8, 2), (8, 3), (8, 4), (8, 5), (8, 6), (8, 7), (8, 8), (8, 9)] u36), L, (clr I 9 q39 0), (clr P 9 q39 none), E, N), sgX g ++ (dy ++ [(9, q39)]))) C hW (c_X8_init l g (hv J [45] [(8, 1), (8, 2), (8, 3), (8, 4), (8, 5), (8, 6), (8, 7), (8, 8), (8, 9)] u36) L (clr I 9 q39 0) (clr P 9 q39 none) E N (dy ++ [(9, q39)]) H.size q39 (List.mem_append_right _ (List.mem_singleton.mpr rfl)) (J 3 1) 1 a0 (J 4 4) (show 0 ≤ (J 3 1).toInt ∧ (J 3 1).toInt ≤ 9999 ∧ 0 ≤ (1 : Int32).toInt ∧ (1 : Int32).toInt ≤ 9999 from by (try simp only [kp1]); omega)) mi_X8_init tw_417 ⟨rfl, rfl, Nat.le_of_ble_eq_true rfl, Nat.le_of_ble_eq_true rfl⟩ rfl hl.1 rfl (Nat.le_of_ble_eq_true rfl) dX11_say_152 ⟨Nat.le_of_ble_eq_true rfl, Nat.le_of_ble_eq_true rfl⟩) (fun u40 H locs hp40 hW => ?_)
                      have hW : WB g A s.heap H locs ((hv J [45] [(8, 1), (8, 2), (8, 3), (8, 4), (8, 5), (8, 6), (8, 7), (8, 8), (8, 9)] u36), L, (up3 (up3 (up3 (up3 (up3 (up3 (clr I 9 q39 0) 9 4 q39 (-9)) 9 6 q39 (-9)) 9 0 q39 (J 3 1)) 9 1 q39 u40) 9 2 q39 a0) 9 3 q39 (J 4 4)), (clr P 9 q39 none), E, N) (sgX g ++ (dy ++ [(9, q39)])) := hW
                      have hfc40 : ((u40).toInt = (J 3 1).toInt + 1 - 1) := hp40
                      have hwf : WXF g (hv J [45] [(8, 1), (8, 2), (8, 3), (8, 4), (8, 5), (8, 6), (8, 7), (8, 8), (8, 9)] u36) (clr P 9 q39 none) E N (dy ++ [(9, q39)]) := wxf_new (J := (hv J [45] [(8, 1), (8, 2), (8, 3), (8, 4), (8, 5), (8, 6), (8, 7), (8, 8), (8, 9)] u36)) hwf (fun x hx => hfr39 x (List.mem_append_right _ hx)) (fun r f a h => clr_o _ _ _ h _ _) (fun _ _ => rfl) ⟨fun h => absurd h (by decide), fun h => absurd h (by decide), fun h => absurd h (by decide), fun h => absurd h (by decide)⟩
                      refine lv_astore (lv' := [(6, .ref q39), (5, .int (J 3 1)), (4, .ref o6), (0, .ref (g.2.2.1 12)), (1, .int a0), (2, .int a1), (3, .int a2)]) hx hb dX11_say_155 hl (by decide) rfl (fun ls hl => ?_)
                      refine lv_aload hx hb dX11_say_157 (lv_at hl 0 rfl) ?_
                      refine lv_iload_n hx hb dX11_say_159 rfl (lv_at hl 5 rfl) ?_
                      refine rp_9_4 C hW (List.mem_append_right _ (List.mem_append_right _ (List.mem_singleton.mpr rfl))) tw_434 dX11_say_160 (fun H locs hW => ?_)
                      refine lv_aload hx hb dX11_say_163 (lv_at hl 0 rfl) ?_
                      refine lv_aload hx hb dX11_say_165 (lv_at hl 2 rfl) ?_
                      refine rg_7_0 C hW (List.mem_append_right _ (List.mem_append_left _ hm6)) tw_596 dX11_say_167 ?_
                      refine lv_topi (fun x41 (e41 : x41 = I 7 0 o6) => ?_)
                      have t41 : x41.toInt = (I 7 0 o6).toInt := by rw [e41]
                      refine rp_9_5 C hW (List.mem_append_right _ (List.mem_append_right _ (List.mem_singleton.mpr rfl))) tw_436 dX11_say_170 (fun H locs hW => ?_)
                      refine lv_aload hx hb dX11_say_173 (lv_at hl 0 rfl) ?_
                      refine lv_iload_n hx hb dX11_say_175 rfl (lv_at hl 4 rfl) ?_
                      refine ci_ C hW (runS (As := [.int a0]) (rest := [.ref q39]) (T := (((hv J [45] [(8, 1), (8, 2), (8, 3), (8, 4), (8, 5), (8, 6), (8, 7), (8, 8), (8, 9)] u36), L, (up3 (up3 (up3 (up3 (up3 (up3 (up3 (up3 (clr I 9 q39 0) 9 4 q39 (-9)) 9 6 q39 (-9)) 9 0 q39 (J 3 1)) 9 1 q39 u40) 9 2 q39 a0) 9 3 q39 (J 4 4)) 9 4 q39 a1) 9 5 q39 x41), (clr P 9 q39 none), E, N), sgX g ++ (dy ++ [(9, q39)]))) C hW (c_X11_tellsOf l g (hv J [45] [(8, 1), (8, 2), (8, 3), (8, 4), (8, 5), (8, 6), (8, 7), (8, 8), (8, 9)] u36) L (up3 (up3 (up3 (up3 (up3 (up3 (up3 (up3 (clr I 9 q39 0) 9 4 q39 (-9)) 9 6 q39 (-9)) 9 0 q39 (J 3 1)) 9 1 q39 u40) 9 2 q39 a0) 9 3 q39 (J 4 4)) 9 4 q39 a1) 9 5 q39 x41) (clr P 9 q39 none) E N (dy ++ [(9, q39)]) H.size a0 ) mi_X11_tellsOf tw_636 ⟨rfl, rfl, Nat.le_of_ble_eq_true rfl, Nat.le_of_ble_eq_true rfl⟩ rfl hl.1 rfl (Nat.le_of_ble_eq_true rfl) dX11_say_176 ⟨Nat.le_of_ble_eq_true rfl, Nat.le_of_ble_eq_true rfl⟩) (fun r42 u42 H locs hp42 hW => ?_)
                      have hc42 : ((r42.toInt = 1) ∨ (r42.toInt = 0)) := hp42
                      clear hp42
                      have hW : WB g A s.heap H locs ((hv J [45] [(8, 1), (8, 2), (8, 3), (8, 4), (8, 5), (8, 6), (8, 7), (8, 8), (8, 9)] u36), L, (up3 (up3 (up3 (up3 (up3 (up3 (up3 (up3 (clr I 9 q39 0) 9 4 q39 (-9)) 9 6 q39 (-9)) 9 0 q39 (J 3 1)) 9 1 q39 u40) 9 2 q39 a0) 9 3 q39 (J 4 4)) 9 4 q39 a1) 9 5 q39 x41), (clr P 9 q39 none), E, N) (sgX g ++ (dy ++ [(9, q39)])) := hW
                      refine lv_if_eq (tgt := 190) hx hb dX11_say_179 (by decide) (fun c43 => ?_) (fun c43 => ?_)
                      · have c43 : r42.toInt = 0 := teq rfl kp0 c43
                        refine lv_bipush (v := (-9)) hx hb dX11_say_190 (by decide) ?_
                        refine rp_9_6 C hW (List.mem_append_right _ (List.mem_append_right _ (List.mem_singleton.mpr rfl))) tw_438 dX11_say_192 (fun H locs hW => ?_)
                        refine lv_aload_n hx hb dX11_say_195 rfl (lv_at hl 3 rfl) ?_
                        refine rg_12_1 C hW (mx_ rfl) tw_365 dX11_say_196 ?_
                        refine lv_aload hx hb dX11_say_199 (lv_at hl 0 rfl) ?_
                        have hi44 : (up3 (up3 (up3 (up3 (up3 (up3 (up3 (up3 (up3 (clr I 9 q39 0) 9 4 q39 (-9)) 9 6 q39 (-9)) 9 0 q39 (J 3 1)) 9 1 q39 u40) 9 2 q39 a0) 9 3 q39 (J 4 4)) 9 4 q39 a1) 9 5 q39 x41) 9 6 q39 (-9)) 9 1 q39 = u40 := (show (up3 (up3 (up3 (up3 (clr I 9 q39 0) 9 4 q39 (-9)) 9 6 q39 (-9)) 9 0 q39 (J 3 1)) 9 1 q39 u40) 9 1 q39 = _ from up3_s _ _ _ _ _)
                        refine cv_ C hW (runV (x := (g.2.2.1 3)) (As := [.ref q39]) (rest := []) (T := (((hv J [45] [(8, 1), (8, 2), (8, 3), (8, 4), (8, 5), (8, 6), (8, 7), (8, 8), (8, 9)] u36), L, (up3 (up3 (up3 (up3 (up3 (up3 (up3 (up3 (up3 (clr I 9 q39 0) 9 4 q39 (-9)) 9 6 q39 (-9)) 9 0 q39 (J 3 1)) 9 1 q39 u40) 9 2 q39 a0) 9 3 q39 (J 4 4)) 9 4 q39 a1) 9 5 q39 x41) 9 6 q39 (-9)), (clr P 9 q39 none), E, N), sgX g ++ (dy ++ [(9, q39)]))) C hW (c_X2_goBy l g (hv J [45] [(8, 1), (8, 2), (8, 3), (8, 4), (8, 5), (8, 6), (8, 7), (8, 8), (8, 9)] u36) L (up3 (up3 (up3 (up3 (up3 (up3 (up3 (up3 (up3 (clr I 9 q39 0) 9 4 q39 (-9)) 9 6 q39 (-9)) 9 0 q39 (J 3 1)) 9 1 q39 u40) 9 2 q39 a0) 9 3 q39 (J 4 4)) 9 4 q39 a1) 9 5 q39 x41) 9 6 q39 (-9)) (clr P 9 q39 none) E N (dy ++ [(9, q39)]) H.size q39 (List.mem_append_right _ (List.mem_singleton.mpr rfl)) hwf (show 0 ≤ (((up3 (up3 (up3 (up3 (up3 (up3 (up3 (up3 (up3 (clr I 9 q39 0) 9 4 q39 (-9)) 9 6 q39 (-9)) 9 0 q39 (J 3 1)) 9 1 q39 u40) 9 2 q39 a0) 9 3 q39 (J 4 4)) 9 4 q39 a1) 9 5 q39 x41) 9 6 q39 (-9)) 9 1 q39)).toInt ∧ (((up3 (up3 (up3 (up3 (up3 (up3 (up3 (up3 (up3 (clr I 9 q39 0) 9 4 q39 (-9)) 9 6 q39 (-9)) 9 0 q39 (J 3 1)) 9 1 q39 u40) 9 2 q39 a0) 9 3 q39 (J 4 4)) 9 4 q39 a1) 9 5 q39 x41) 9 6 q39 (-9)) 9 1 q39)).toInt ≤ 9998 from by rw [hi44]; omega) (show (J 27 2).toInt ≤ 9999 from by omega)) mi_X2_goBy tw_454 (recv_ (T := (((hv J [45] [(8, 1), (8, 2), (8, 3), (8, 4), (8, 5), (8, 6), (8, 7), (8, 8), (8, 9)] u36), L, (up3 (up3 (up3 (up3 (up3 (up3 (up3 (up3 (up3 (clr I 9 q39 0) 9 4 q39 (-9)) 9 6 q39 (-9)) 9 0 q39 (J 3 1)) 9 1 q39 u40) 9 2 q39 a0) 9 3 q39 (J 4 4)) 9 4 q39 a1) 9 5 q39 x41) 9 6 q39 (-9)), (clr P 9 q39 none), E, N), sgX g ++ (dy ++ [(9, q39)]))) C hW (mx_ rfl) rfl rfl) ⟨rfl, rfl, Nat.le_of_ble_eq_true rfl, Nat.le_of_ble_eq_true rfl⟩ rfl hl.1 rfl (Nat.le_of_ble_eq_true rfl) dX11_say_201 ⟨Nat.le_of_ble_eq_true rfl, Nat.le_of_ble_eq_true rfl⟩) (fun u45 H locs hp45 hW => ?_)
                        have hW : WB g A s.heap H locs ((hv (hv J [45] [(8, 1), (8, 2), (8, 3), (8, 4), (8, 5), (8, 6), (8, 7), (8, 8), (8, 9)] u36) [] [(3, 1), (3, 2), (3, 3), (27, 0), (27, 2)] u45.1), L, (hv (up3 (up3 (up3 (up3 (up3 (up3 (up3 (up3 (up3 (clr I 9 q39 0) 9 4 q39 (-9)) 9 6 q39 (-9)) 9 0 q39 (J 3 1)) 9 1 q39 u40) 9 2 q39 a0) 9 3 q39 (J 4 4)) 9 4 q39 a1) 9 5 q39 x41) 9 6 q39 (-9)) [] [] u45.2.1), (hv (clr P 9 q39 none) [37] [] u45.2.2.1), (hv1 E [27] u45.2.2.2.1), u45.2.2.2.2.1) (sgX g ++ u45.2.2.2.2.2) := hW
                        obtain ⟨hwf, hd45, hf45_0, hf45_1⟩ : WXF g (hv (hv J [45] [(8, 1), (8, 2), (8, 3), (8, 4), (8, 5), (8, 6), (8, 7), (8, 8), (8, 9)] u36) [] [(3, 1), (3, 2), (3, 3), (27, 0), (27, 2)] u45.1) (hv (clr P 9 q39 none) [37] [] u45.2.2.1) (hv1 E [27] u45.2.2.2.1) u45.2.2.2.2.1 u45.2.2.2.2.2 ∧ (∀ x ∈ (dy ++ [(9, q39)]), x ∈ u45.2.2.2.2.2) ∧ ((u45.1 3 1).toInt = (((up3 (up3 (up3 (up3 (up3 (up3 (up3 (up3 (up3 (clr I 9 q39 0) 9 4 q39 (-9)) 9 6 q39 (-9)) 9 0 q39 (J 3 1)) 9 1 q39 u40) 9 2 q39 a0) 9 3 q39 (J 4 4)) 9 4 q39 a1) 9 5 q39 x41) 9 6 q39 (-9)) 9 1 q39)).toInt + 1) ∧ ((u45.1 27 2).toInt = (J 27 2).toInt + 1) := hp45
                        rw [hi44] at hf45_0
                        refine lv_aload hx hb dX11_say_204 (lv_at hl 2 rfl) ?_
                        refine lv_iload hx hb dX11_say_206 (lv_at hl 1 rfl) ?_
                        refine cv_ C hW (runV (x := o6) (As := [.int (J 3 1)]) (rest := []) (T := (((hv (hv J [45] [(8, 1), (8, 2), (8, 3), (8, 4), (8, 5), (8, 6), (8, 7), (8, 8), (8, 9)] u36) [] [(3, 1), (3, 2), (3, 3), (27, 0), (27, 2)] u45.1), L, (hv (up3 (up3 (up3 (up3 (up3 (up3 (up3 (up3 (up3 (clr I 9 q39 0) 9 4 q39 (-9)) 9 6 q39 (-9)) 9 0 q39 (J 3 1)) 9 1 q39 u40) 9 2 q39 a0) 9 3 q39 (J 4 4)) 9 4 q39 a1) 9 5 q39 x41) 9 6 q39 (-9)) [] [] u45.2.1), (hv (clr P 9 q39 none) [37] [] u45.2.2.1), (hv1 E [27] u45.2.2.2.1), u45.2.2.2.2.1), sgX g ++ u45.2.2.2.2.2)) C hW (c_X6_readIn l g (hv (hv J [45] [(8, 1), (8, 2), (8, 3), (8, 4), (8, 5), (8, 6), (8, 7), (8, 8), (8, 9)] u36) [] [(3, 1), (3, 2), (3, 3), (27, 0), (27, 2)] u45.1) L (hv (up3 (up3 (up3 (up3 (up3 (up3 (up3 (up3 (up3 (clr I 9 q39 0) 9 4 q39 (-9)) 9 6 q39 (-9)) 9 0 q39 (J 3 1)) 9 1 q39 u40) 9 2 q39 a0) 9 3 q39 (J 4 4)) 9 4 q39 a1) 9 5 q39 x41) 9 6 q39 (-9)) [] [] u45.2.1) (hv (clr P 9 q39 none) [37] [] u45.2.2.1) (hv1 E [27] u45.2.2.2.1) u45.2.2.2.2.1 u45.2.2.2.2.2 H.size o6 (hd45 _ (List.mem_append_left _ hm6)) (J 3 1) hwf) mi_X6_readIn tw_696 (recv_ (T := (((hv (hv J [45] [(8, 1), (8, 2), (8, 3), (8, 4), (8, 5), (8, 6), (8, 7), (8, 8), (8, 9)] u36) [] [(3, 1), (3, 2), (3, 3), (27, 0), (27, 2)] u45.1), L, (hv (up3 (up3 (up3 (up3 (up3 (up3 (up3 (up3 (up3 (clr I 9 q39 0) 9 4 q39 (-9)) 9 6 q39 (-9)) 9 0 q39 (J 3 1)) 9 1 q39 u40) 9 2 q39 a0) 9 3 q39 (J 4 4)) 9 4 q39 a1) 9 5 q39 x41) 9 6 q39 (-9)) [] [] u45.2.1), (hv (clr P 9 q39 none) [37] [] u45.2.2.1), (hv1 E [27] u45.2.2.2.1), u45.2.2.2.2.1), sgX g ++ u45.2.2.2.2.2)) C hW (List.mem_append_right _ (hd45 _ (List.mem_append_left _ hm6))) rfl rfl) ⟨rfl, rfl, Nat.le_of_ble_eq_true rfl, Nat.le_of_ble_eq_true rfl⟩ rfl hl.1 rfl (Nat.le_of_ble_eq_true rfl) dX11_say_208 ⟨Nat.le_of_ble_eq_true rfl, Nat.le_of_ble_eq_true rfl⟩) (fun u46 H locs hp46 hW => ?_)
                        have hW : WB g A s.heap H locs ((hv (hv J [45] [(8, 1), (8, 2), (8, 3), (8, 4), (8, 5), (8, 6), (8, 7), (8, 8), (8, 9)] u36) [] [(3, 1), (3, 2), (3, 3), (27, 0), (27, 2)] u45.1), L, (hv (hv (up3 (up3 (up3 (up3 (up3 (up3 (up3 (up3 (up3 (clr I 9 q39 0) 9 4 q39 (-9)) 9 6 q39 (-9)) 9 0 q39 (J 3 1)) 9 1 q39 u40) 9 2 q39 a0) 9 3 q39 (J 4 4)) 9 4 q39 a1) 9 5 q39 x41) 9 6 q39 (-9)) [] [] u45.2.1) [] [(7, 1), (7, 2)] u46), (hv (clr P 9 q39 none) [37] [] u45.2.2.1), (hv1 E [27] u45.2.2.2.1), u45.2.2.2.2.1) (sgX g ++ u45.2.2.2.2.2) := hW
                        refine lv_aload_n hx hb dX11_say_211 rfl (lv_at hl 3 rfl) ?_
                        refine lv_iload_n hx hb dX11_say_212 rfl (lv_at hl 4 rfl) ?_
                        refine lv_iload_n hx hb dX11_say_213 rfl (lv_at hl 6 rfl) ?_
                        refine lv_iload hx hb dX11_say_214 (lv_at hl 1 rfl) ?_
                        refine cv_ C hW (runV (x := (g.2.2.1 12)) (As := [.int a0, .int a2, .int (J 3 1)]) (rest := []) (T := (((hv (hv J [45] [(8, 1), (8, 2), (8, 3), (8, 4), (8, 5), (8, 6), (8, 7), (8, 8), (8, 9)] u36) [] [(3, 1), (3, 2), (3, 3), (27, 0), (27, 2)] u45.1), L, (hv (hv (up3 (up3 (up3 (up3 (up3 (up3 (up3 (up3 (up3 (clr I 9 q39 0) 9 4 q39 (-9)) 9 6 q39 (-9)) 9 0 q39 (J 3 1)) 9 1 q39 u40) 9 2 q39 a0) 9 3 q39 (J 4 4)) 9 4 q39 a1) 9 5 q39 x41) 9 6 q39 (-9)) [] [] u45.2.1) [] [(7, 1), (7, 2)] u46), (hv (clr P 9 q39 none) [37] [] u45.2.2.1), (hv1 E [27] u45.2.2.2.1), u45.2.2.2.2.1), sgX g ++ u45.2.2.2.2.2)) C hW (c_X11_markRead l g (hv (hv J [45] [(8, 1), (8, 2), (8, 3), (8, 4), (8, 5), (8, 6), (8, 7), (8, 8), (8, 9)] u36) [] [(3, 1), (3, 2), (3, 3), (27, 0), (27, 2)] u45.1) L (hv (hv (up3 (up3 (up3 (up3 (up3 (up3 (up3 (up3 (up3 (clr I 9 q39 0) 9 4 q39 (-9)) 9 6 q39 (-9)) 9 0 q39 (J 3 1)) 9 1 q39 u40) 9 2 q39 a0) 9 3 q39 (J 4 4)) 9 4 q39 a1) 9 5 q39 x41) 9 6 q39 (-9)) [] [] u45.2.1) [] [(7, 1), (7, 2)] u46) (hv (clr P 9 q39 none) [37] [] u45.2.2.1) (hv1 E [27] u45.2.2.2.1) u45.2.2.2.2.1 u45.2.2.2.2.2 H.size a0 a2 (J 3 1) hwf) mi_X11_markRead tw_700 (recv_ (T := (((hv (hv J [45] [(8, 1), (8, 2), (8, 3), (8, 4), (8, 5), (8, 6), (8, 7), (8, 8), (8, 9)] u36) [] [(3, 1), (3, 2), (3, 3), (27, 0), (27, 2)] u45.1), L, (hv (hv (up3 (up3 (up3 (up3 (up3 (up3 (up3 (up3 (up3 (clr I 9 q39 0) 9 4 q39 (-9)) 9 6 q39 (-9)) 9 0 q39 (J 3 1)) 9 1 q39 u40) 9 2 q39 a0) 9 3 q39 (J 4 4)) 9 4 q39 a1) 9 5 q39 x41) 9 6 q39 (-9)) [] [] u45.2.1) [] [(7, 1), (7, 2)] u46), (hv (clr P 9 q39 none) [37] [] u45.2.2.1), (hv1 E [27] u45.2.2.2.1), u45.2.2.2.2.1), sgX g ++ u45.2.2.2.2.2)) C hW (mx_ rfl) rfl rfl) ⟨rfl, rfl, Nat.le_of_ble_eq_true rfl, Nat.le_of_ble_eq_true rfl⟩ rfl hl.1 rfl (Nat.le_of_ble_eq_true rfl) dX11_say_216 ⟨Nat.le_of_ble_eq_true rfl, Nat.le_of_ble_eq_true rfl⟩) (fun u47 H locs hp47 hW => ?_)
                        have hW : WB g A s.heap H locs ((hv (hv J [45] [(8, 1), (8, 2), (8, 3), (8, 4), (8, 5), (8, 6), (8, 7), (8, 8), (8, 9)] u36) [] [(3, 1), (3, 2), (3, 3), (27, 0), (27, 2)] u45.1), L, (hv (hv (hv (up3 (up3 (up3 (up3 (up3 (up3 (up3 (up3 (up3 (clr I 9 q39 0) 9 4 q39 (-9)) 9 6 q39 (-9)) 9 0 q39 (J 3 1)) 9 1 q39 u40) 9 2 q39 a0) 9 3 q39 (J 4 4)) 9 4 q39 a1) 9 5 q39 x41) 9 6 q39 (-9)) [] [] u45.2.1) [] [(7, 1), (7, 2)] u46) [] [(5, 2)] u47), (hv (clr P 9 q39 none) [37] [] u45.2.2.1), (hv1 E [27] u45.2.2.2.1), u45.2.2.2.2.1) (sgX g ++ u45.2.2.2.2.2) := hW
                        refine lv_iload hx hb dX11_say_219 (lv_at hl 1 rfl) ?_
                        have hJe : (hv (hv J [45] [(8, 1), (8, 2), (8, 3), (8, 4), (8, 5), (8, 6), (8, 7), (8, 8), (8, 9)] u36) [] [(3, 1), (3, 2), (3, 3), (27, 0), (27, 2)] u45.1) = hv J [42, 45] [(3, 1), (3, 2), (3, 3), (8, 1), (8, 2), (8, 3), (8, 4), (8, 5), (8, 6), (8, 7), (8, 8), (8, 9), (27, 0), (27, 2)] (hv (hv J [45] [(8, 1), (8, 2), (8, 3), (8, 4), (8, 5), (8, 6), (8, 7), (8, 8), (8, 9)] u36) [] [(3, 1), (3, 2), (3, 3), (27, 0), (27, 2)] u45.1) := ag_hvE (J := J) (R := [42, 45]) (F := [(3, 1), (3, 2), (3, 3), (8, 1), (8, 2), (8, 3), (8, 4), (8, 5), (8, 6), (8, 7), (8, 8), (8, 9), (27, 0), (27, 2)]) (ag_hv rfl rfl (ag_hv rfl rfl ag_rf))
                        have hIe : (hv (hv (hv (up3 (up3 (up3 (up3 (up3 (up3 (up3 (up3 (up3 (clr I 9 q39 0) 9 4 q39 (-9)) 9 6 q39 (-9)) 9 0 q39 (J 3 1)) 9 1 q39 u40) 9 2 q39 a0) 9 3 q39 (J 4 4)) 9 4 q39 a1) 9 5 q39 x41) 9 6 q39 (-9)) [] [] u45.2.1) [] [(7, 1), (7, 2)] u46) [] [(5, 2)] u47) = hv I [9] [(5, 2), (7, 1), (7, 2)] (hv (hv (hv (up3 (up3 (up3 (up3 (up3 (up3 (up3 (up3 (up3 (clr I 9 q39 0) 9 4 q39 (-9)) 9 6 q39 (-9)) 9 0 q39 (J 3 1)) 9 1 q39 u40) 9 2 q39 a0) 9 3 q39 (J 4 4)) 9 4 q39 a1) 9 5 q39 x41) 9 6 q39 (-9)) [] [] u45.2.1) [] [(7, 1), (7, 2)] u46) [] [(5, 2)] u47) := ag_hvE (J := I) (R := [9]) (F := [(5, 2), (7, 1), (7, 2)]) (ag_hv rfl rfl (ag_hv rfl rfl (ag_hv rfl rfl (ag_up3 (Or.inl rfl) (ag_up3 (Or.inl rfl) (ag_up3 (Or.inl rfl) (ag_up3 (Or.inl rfl) (ag_up3 (Or.inl rfl) (ag_up3 (Or.inl rfl) (ag_up3 (Or.inl rfl) (ag_up3 (Or.inl rfl) (ag_up3 (Or.inl rfl) (ag_clr rfl ag_rf)))))))))))))
                        have hPe : (hv (clr P 9 q39 none) [37] [] u45.2.2.1) = hv P [9, 37] [] (hv (clr P 9 q39 none) [37] [] u45.2.2.1) := ag_hvE (J := P) (R := [9, 37]) (F := []) (ag_hv rfl rfl (ag_clr rfl ag_rf))
                        have hEe : (hv1 E [27] u45.2.2.2.1) = hv1 E [27] (hv1 E [27] u45.2.2.2.1) := hv1_e (R := [27]) (hv1_ag rfl (fun _ _ => rfl))
                        have hWr : WB g A s.heap H locs (hv J [42, 45] [(3, 1), (3, 2), (3, 3), (8, 1), (8, 2), (8, 3), (8, 4), (8, 5), (8, 6), (8, 7), (8, 8), (8, 9), (27, 0), (27, 2)] (hv (hv J [45] [(8, 1), (8, 2), (8, 3), (8, 4), (8, 5), (8, 6), (8, 7), (8, 8), (8, 9)] u36) [] [(3, 1), (3, 2), (3, 3), (27, 0), (27, 2)] u45.1), L, hv I [9] [(5, 2), (7, 1), (7, 2)] (hv (hv (hv (up3 (up3 (up3 (up3 (up3 (up3 (up3 (up3 (up3 (clr I 9 q39 0) 9 4 q39 (-9)) 9 6 q39 (-9)) 9 0 q39 (J 3 1)) 9 1 q39 u40) 9 2 q39 a0) 9 3 q39 (J 4 4)) 9 4 q39 a1) 9 5 q39 x41) 9 6 q39 (-9)) [] [] u45.2.1) [] [(7, 1), (7, 2)] u46) [] [(5, 2)] u47), hv P [9, 37] [] (hv (clr P 9 q39 none) [37] [] u45.2.2.1), hv1 E [27] (hv1 E [27] u45.2.2.2.1), u45.2.2.2.2.1) (sgX g ++ u45.2.2.2.2.2) := by
                          rw [← hJe, ← hIe, ← hPe, ← hEe]; exact hW
                        have hwr : WXF g (hv J [42, 45] [(3, 1), (3, 2), (3, 3), (8, 1), (8, 2), (8, 3), (8, 4), (8, 5), (8, 6), (8, 7), (8, 8), (8, 9), (27, 0), (27, 2)] (hv (hv J [45] [(8, 1), (8, 2), (8, 3), (8, 4), (8, 5), (8, 6), (8, 7), (8, 8), (8, 9)] u36) [] [(3, 1), (3, 2), (3, 3), (27, 0), (27, 2)] u45.1)) (hv P [9, 37] [] (hv (clr P 9 q39 none) [37] [] u45.2.2.1)) (hv1 E [27] (hv1 E [27] u45.2.2.2.1)) u45.2.2.2.2.1 u45.2.2.2.2.2 := by
                          rw [← hJe, ← hPe, ← hEe]; exact hwf
                        refine W.widen (k := 10) (n := 20100) (Nat.le_of_ble_eq_true rfl) (Nat.le_of_ble_eq_true rfl) ?_
                        exact end_i C hr hlocks ((hv (hv J [45] [(8, 1), (8, 2), (8, 3), (8, 4), (8, 5), (8, 6), (8, 7), (8, 8), (8, 9)] u36) [] [(3, 1), (3, 2), (3, 3), (27, 0), (27, 2)] u45.1), (hv (hv (hv (up3 (up3 (up3 (up3 (up3 (up3 (up3 (up3 (up3 (clr I 9 q39 0) 9 4 q39 (-9)) 9 6 q39 (-9)) 9 0 q39 (J 3 1)) 9 1 q39 u40) 9 2 q39 a0) 9 3 q39 (J 4 4)) 9 4 q39 a1) 9 5 q39 x41) 9 6 q39 (-9)) [] [] u45.2.1) [] [(7, 1), (7, 2)] u46) [] [(5, 2)] u47), (hv (clr P 9 q39 none) [37] [] u45.2.2.1), (hv1 E [27] u45.2.2.2.1), u45.2.2.2.2.1, u45.2.2.2.2.2) hWr ⟨hwr, fun x hx => hd45 x ((fun x hx => List.mem_append_left _ ((fun x hx => hx) x hx)) x hx), show 0 ≤ (u45.1 3 1).toInt ∧ (u45.1 3 1).toInt ≤ 9999 ∧ (u45.1 27 2).toInt ≤ (u45.1 3 1).toInt from by first | omega | exact ⟨by omega, by omega, by omega⟩⟩ dX11_say_221
                      · have c43 : ¬ r42.toInt = 0 := tne rfl kp0 c43
                        refine lv_iload_n hx hb dX11_say_182 rfl (lv_at hl 6 rfl) ?_
                        refine lv_if_lt (tgt := 190) hx hb dX11_say_183 (by decide) (fun c48 => ?_) (fun c48 => ?_)
                        · have c48 : a2.toInt < 0 := tlt rfl kp0 c48
                          refine lv_bipush (v := (-9)) hx hb dX11_say_190 (by decide) ?_
                          refine rp_9_6 C hW (List.mem_append_right _ (List.mem_append_right _ (List.mem_singleton.mpr rfl))) tw_438 dX11_say_192 (fun H locs hW => ?_)
                          refine lv_aload_n hx hb dX11_say_195 rfl (lv_at hl 3 rfl) ?_
                          refine rg_12_1 C hW (mx_ rfl) tw_365 dX11_say_196 ?_
                          refine lv_aload hx hb dX11_say_199 (lv_at hl 0 rfl) ?_
                          have hi49 : (up3 (up3 (up3 (up3 (up3 (up3 (up3 (up3 (up3 (clr I 9 q39 0) 9 4 q39 (-9)) 9 6 q39 (-9)) 9 0 q39 (J 3 1)) 9 1 q39 u40) 9 2 q39 a0) 9 3 q39 (J 4 4)) 9 4 q39 a1) 9 5 q39 x41) 9 6 q39 (-9)) 9 1 q39 = u40 := (show (up3 (up3 (up3 (up3 (clr I 9 q39 0) 9 4 q39 (-9)) 9 6 q39 (-9)) 9 0 q39 (J 3 1)) 9 1 q39 u40) 9 1 q39 = _ from up3_s _ _ _ _ _)
                          refine cv_ C hW (runV (x := (g.2.2.1 3)) (As := [.ref q39]) (rest := []) (T := (((hv J [45] [(8, 1), (8, 2), (8, 3), (8, 4), (8, 5), (8, 6), (8, 7), (8, 8), (8, 9)] u36), L, (up3 (up3 (up3 (up3 (up3 (up3 (up3 (up3 (up3 (clr I 9 q39 0) 9 4 q39 (-9)) 9 6 q39 (-9)) 9 0 q39 (J 3 1)) 9 1 q39 u40) 9 2 q39 a0) 9 3 q39 (J 4 4)) 9 4 q39 a1) 9 5 q39 x41) 9 6 q39 (-9)), (clr P 9 q39 none), E, N), sgX g ++ (dy ++ [(9, q39)]))) C hW (c_X2_goBy l g (hv J [45] [(8, 1), (8, 2), (8, 3), (8, 4), (8, 5), (8, 6), (8, 7), (8, 8), (8, 9)] u36) L (up3 (up3 (up3 (up3 (up3 (up3 (up3 (up3 (up3 (clr I 9 q39 0) 9 4 q39 (-9)) 9 6 q39 (-9)) 9 0 q39 (J 3 1)) 9 1 q39 u40) 9 2 q39 a0) 9 3 q39 (J 4 4)) 9 4 q39 a1) 9 5 q39 x41) 9 6 q39 (-9)) (clr P 9 q39 none) E N (dy ++ [(9, q39)]) H.size q39 (List.mem_append_right _ (List.mem_singleton.mpr rfl)) hwf (show 0 ≤ (((up3 (up3 (up3 (up3 (up3 (up3 (up3 (up3 (up3 (clr I 9 q39 0) 9 4 q39 (-9)) 9 6 q39 (-9)) 9 0 q39 (J 3 1)) 9 1 q39 u40) 9 2 q39 a0) 9 3 q39 (J 4 4)) 9 4 q39 a1) 9 5 q39 x41) 9 6 q39 (-9)) 9 1 q39)).toInt ∧ (((up3 (up3 (up3 (up3 (up3 (up3 (up3 (up3 (up3 (clr I 9 q39 0) 9 4 q39 (-9)) 9 6 q39 (-9)) 9 0 q39 (J 3 1)) 9 1 q39 u40) 9 2 q39 a0) 9 3 q39 (J 4 4)) 9 4 q39 a1) 9 5 q39 x41) 9 6 q39 (-9)) 9 1 q39)).toInt ≤ 9998 from by rw [hi49]; omega) (show (J 27 2).toInt ≤ 9999 from by omega)) mi_X2_goBy tw_454 (recv_ (T := (((hv J [45] [(8, 1), (8, 2), (8, 3), (8, 4), (8, 5), (8, 6), (8, 7), (8, 8), (8, 9)] u36), L, (up3 (up3 (up3 (up3 (up3 (up3 (up3 (up3 (up3 (clr I 9 q39 0) 9 4 q39 (-9)) 9 6 q39 (-9)) 9 0 q39 (J 3 1)) 9 1 q39 u40) 9 2 q39 a0) 9 3 q39 (J 4 4)) 9 4 q39 a1) 9 5 q39 x41) 9 6 q39 (-9)), (clr P 9 q39 none), E, N), sgX g ++ (dy ++ [(9, q39)]))) C hW (mx_ rfl) rfl rfl) ⟨rfl, rfl, Nat.le_of_ble_eq_true rfl, Nat.le_of_ble_eq_true rfl⟩ rfl hl.1 rfl (Nat.le_of_ble_eq_true rfl) dX11_say_201 ⟨Nat.le_of_ble_eq_true rfl, Nat.le_of_ble_eq_true rfl⟩) (fun u50 H locs hp50 hW => ?_)
                          have hW : WB g A s.heap H locs ((hv (hv J [45] [(8, 1), (8, 2), (8, 3), (8, 4), (8, 5), (8, 6), (8, 7), (8, 8), (8, 9)] u36) [] [(3, 1), (3, 2), (3, 3), (27, 0), (27, 2)] u50.1), L, (hv (up3 (up3 (up3 (up3 (up3 (up3 (up3 (up3 (up3 (clr I 9 q39 0) 9 4 q39 (-9)) 9 6 q39 (-9)) 9 0 q39 (J 3 1)) 9 1 q39 u40) 9 2 q39 a0) 9 3 q39 (J 4 4)) 9 4 q39 a1) 9 5 q39 x41) 9 6 q39 (-9)) [] [] u50.2.1), (hv (clr P 9 q39 none) [37] [] u50.2.2.1), (hv1 E [27] u50.2.2.2.1), u50.2.2.2.2.1) (sgX g ++ u50.2.2.2.2.2) := hW
                          obtain ⟨hwf, hd50, hf50_0, hf50_1⟩ : WXF g (hv (hv J [45] [(8, 1), (8, 2), (8, 3), (8, 4), (8, 5), (8, 6), (8, 7), (8, 8), (8, 9)] u36) [] [(3, 1), (3, 2), (3, 3), (27, 0), (27, 2)] u50.1) (hv (clr P 9 q39 none) [37] [] u50.2.2.1) (hv1 E [27] u50.2.2.2.1) u50.2.2.2.2.1 u50.2.2.2.2.2 ∧ (∀ x ∈ (dy ++ [(9, q39)]), x ∈ u50.2.2.2.2.2) ∧ ((u50.1 3 1).toInt = (((up3 (up3 (up3 (up3 (up3 (up3 (up3 (up3 (up3 (clr I 9 q39 0) 9 4 q39 (-9)) 9 6 q39 (-9)) 9 0 q39 (J 3 1)) 9 1 q39 u40) 9 2 q39 a0) 9 3 q39 (J 4 4)) 9 4 q39 a1) 9 5 q39 x41) 9 6 q39 (-9)) 9 1 q39)).toInt + 1) ∧ ((u50.1 27 2).toInt = (J 27 2).toInt + 1) := hp50
                          rw [hi49] at hf50_0
                          refine lv_aload hx hb dX11_say_204 (lv_at hl 2 rfl) ?_
                          refine lv_iload hx hb dX11_say_206 (lv_at hl 1 rfl) ?_
                          refine cv_ C hW (runV (x := o6) (As := [.int (J 3 1)]) (rest := []) (T := (((hv (hv J [45] [(8, 1), (8, 2), (8, 3), (8, 4), (8, 5), (8, 6), (8, 7), (8, 8), (8, 9)] u36) [] [(3, 1), (3, 2), (3, 3), (27, 0), (27, 2)] u50.1), L, (hv (up3 (up3 (up3 (up3 (up3 (up3 (up3 (up3 (up3 (clr I 9 q39 0) 9 4 q39 (-9)) 9 6 q39 (-9)) 9 0 q39 (J 3 1)) 9 1 q39 u40) 9 2 q39 a0) 9 3 q39 (J 4 4)) 9 4 q39 a1) 9 5 q39 x41) 9 6 q39 (-9)) [] [] u50.2.1), (hv (clr P 9 q39 none) [37] [] u50.2.2.1), (hv1 E [27] u50.2.2.2.1), u50.2.2.2.2.1), sgX g ++ u50.2.2.2.2.2)) C hW (c_X6_readIn l g (hv (hv J [45] [(8, 1), (8, 2), (8, 3), (8, 4), (8, 5), (8, 6), (8, 7), (8, 8), (8, 9)] u36) [] [(3, 1), (3, 2), (3, 3), (27, 0), (27, 2)] u50.1) L (hv (up3 (up3 (up3 (up3 (up3 (up3 (up3 (up3 (up3 (clr I 9 q39 0) 9 4 q39 (-9)) 9 6 q39 (-9)) 9 0 q39 (J 3 1)) 9 1 q39 u40) 9 2 q39 a0) 9 3 q39 (J 4 4)) 9 4 q39 a1) 9 5 q39 x41) 9 6 q39 (-9)) [] [] u50.2.1) (hv (clr P 9 q39 none) [37] [] u50.2.2.1) (hv1 E [27] u50.2.2.2.1) u50.2.2.2.2.1 u50.2.2.2.2.2 H.size o6 (hd50 _ (List.mem_append_left _ hm6)) (J 3 1) hwf) mi_X6_readIn tw_696 (recv_ (T := (((hv (hv J [45] [(8, 1), (8, 2), (8, 3), (8, 4), (8, 5), (8, 6), (8, 7), (8, 8), (8, 9)] u36) [] [(3, 1), (3, 2), (3, 3), (27, 0), (27, 2)] u50.1), L, (hv (up3 (up3 (up3 (up3 (up3 (up3 (up3 (up3 (up3 (clr I 9 q39 0) 9 4 q39 (-9)) 9 6 q39 (-9)) 9 0 q39 (J 3 1)) 9 1 q39 u40) 9 2 q39 a0) 9 3 q39 (J 4 4)) 9 4 q39 a1) 9 5 q39 x41) 9 6 q39 (-9)) [] [] u50.2.1), (hv (clr P 9 q39 none) [37] [] u50.2.2.1), (hv1 E [27] u50.2.2.2.1), u50.2.2.2.2.1), sgX g ++ u50.2.2.2.2.2)) C hW (List.mem_append_right _ (hd50 _ (List.mem_append_left _ hm6))) rfl rfl) ⟨rfl, rfl, Nat.le_of_ble_eq_true rfl, Nat.le_of_ble_eq_true rfl⟩ rfl hl.1 rfl (Nat.le_of_ble_eq_true rfl) dX11_say_208 ⟨Nat.le_of_ble_eq_true rfl, Nat.le_of_ble_eq_true rfl⟩) (fun u51 H locs hp51 hW => ?_)
                          have hW : WB g A s.heap H locs ((hv (hv J [45] [(8, 1), (8, 2), (8, 3), (8, 4), (8, 5), (8, 6), (8, 7), (8, 8), (8, 9)] u36) [] [(3, 1), (3, 2), (3, 3), (27, 0), (27, 2)] u50.1), L, (hv (hv (up3 (up3 (up3 (up3 (up3 (up3 (up3 (up3 (up3 (clr I 9 q39 0) 9 4 q39 (-9)) 9 6 q39 (-9)) 9 0 q39 (J 3 1)) 9 1 q39 u40) 9 2 q39 a0) 9 3 q39 (J 4 4)) 9 4 q39 a1) 9 5 q39 x41) 9 6 q39 (-9)) [] [] u50.2.1) [] [(7, 1), (7, 2)] u51), (hv (clr P 9 q39 none) [37] [] u50.2.2.1), (hv1 E [27] u50.2.2.2.1), u50.2.2.2.2.1) (sgX g ++ u50.2.2.2.2.2) := hW
                          refine lv_aload_n hx hb dX11_say_211 rfl (lv_at hl 3 rfl) ?_
                          refine lv_iload_n hx hb dX11_say_212 rfl (lv_at hl 4 rfl) ?_
                          refine lv_iload_n hx hb dX11_say_213 rfl (lv_at hl 6 rfl) ?_
                          refine lv_iload hx hb dX11_say_214 (lv_at hl 1 rfl) ?_
                          refine cv_ C hW (runV (x := (g.2.2.1 12)) (As := [.int a0, .int a2, .int (J 3 1)]) (rest := []) (T := (((hv (hv J [45] [(8, 1), (8, 2), (8, 3), (8, 4), (8, 5), (8, 6), (8, 7), (8, 8), (8, 9)] u36) [] [(3, 1), (3, 2), (3, 3), (27, 0), (27, 2)] u50.1), L, (hv (hv (up3 (up3 (up3 (up3 (up3 (up3 (up3 (up3 (up3 (clr I 9 q39 0) 9 4 q39 (-9)) 9 6 q39 (-9)) 9 0 q39 (J 3 1)) 9 1 q39 u40) 9 2 q39 a0) 9 3 q39 (J 4 4)) 9 4 q39 a1) 9 5 q39 x41) 9 6 q39 (-9)) [] [] u50.2.1) [] [(7, 1), (7, 2)] u51), (hv (clr P 9 q39 none) [37] [] u50.2.2.1), (hv1 E [27] u50.2.2.2.1), u50.2.2.2.2.1), sgX g ++ u50.2.2.2.2.2)) C hW (c_X11_markRead l g (hv (hv J [45] [(8, 1), (8, 2), (8, 3), (8, 4), (8, 5), (8, 6), (8, 7), (8, 8), (8, 9)] u36) [] [(3, 1), (3, 2), (3, 3), (27, 0), (27, 2)] u50.1) L (hv (hv (up3 (up3 (up3 (up3 (up3 (up3 (up3 (up3 (up3 (clr I 9 q39 0) 9 4 q39 (-9)) 9 6 q39 (-9)) 9 0 q39 (J 3 1)) 9 1 q39 u40) 9 2 q39 a0) 9 3 q39 (J 4 4)) 9 4 q39 a1) 9 5 q39 x41) 9 6 q39 (-9)) [] [] u50.2.1) [] [(7, 1), (7, 2)] u51) (hv (clr P 9 q39 none) [37] [] u50.2.2.1) (hv1 E [27] u50.2.2.2.1) u50.2.2.2.2.1 u50.2.2.2.2.2 H.size a0 a2 (J 3 1) hwf) mi_X11_markRead tw_700 (recv_ (T := (((hv (hv J [45] [(8, 1), (8, 2), (8, 3), (8, 4), (8, 5), (8, 6), (8, 7), (8, 8), (8, 9)] u36) [] [(3, 1), (3, 2), (3, 3), (27, 0), (27, 2)] u50.1), L, (hv (hv (up3 (up3 (up3 (up3 (up3 (up3 (up3 (up3 (up3 (clr I 9 q39 0) 9 4 q39 (-9)) 9 6 q39 (-9)) 9 0 q39 (J 3 1)) 9 1 q39 u40) 9 2 q39 a0) 9 3 q39 (J 4 4)) 9 4 q39 a1) 9 5 q39 x41) 9 6 q39 (-9)) [] [] u50.2.1) [] [(7, 1), (7, 2)] u51), (hv (clr P 9 q39 none) [37] [] u50.2.2.1), (hv1 E [27] u50.2.2.2.1), u50.2.2.2.2.1), sgX g ++ u50.2.2.2.2.2)) C hW (mx_ rfl) rfl rfl) ⟨rfl, rfl, Nat.le_of_ble_eq_true rfl, Nat.le_of_ble_eq_true rfl⟩ rfl hl.1 rfl (Nat.le_of_ble_eq_true rfl) dX11_say_216 ⟨Nat.le_of_ble_eq_true rfl, Nat.le_of_ble_eq_true rfl⟩) (fun u52 H locs hp52 hW => ?_)
                          have hW : WB g A s.heap H locs ((hv (hv J [45] [(8, 1), (8, 2), (8, 3), (8, 4), (8, 5), (8, 6), (8, 7), (8, 8), (8, 9)] u36) [] [(3, 1), (3, 2), (3, 3), (27, 0), (27, 2)] u50.1), L, (hv (hv (hv (up3 (up3 (up3 (up3 (up3 (up3 (up3 (up3 (up3 (clr I 9 q39 0) 9 4 q39 (-9)) 9 6 q39 (-9)) 9 0 q39 (J 3 1)) 9 1 q39 u40) 9 2 q39 a0) 9 3 q39 (J 4 4)) 9 4 q39 a1) 9 5 q39 x41) 9 6 q39 (-9)) [] [] u50.2.1) [] [(7, 1), (7, 2)] u51) [] [(5, 2)] u52), (hv (clr P 9 q39 none) [37] [] u50.2.2.1), (hv1 E [27] u50.2.2.2.1), u50.2.2.2.2.1) (sgX g ++ u50.2.2.2.2.2) := hW
                          refine lv_iload hx hb dX11_say_219 (lv_at hl 1 rfl) ?_
                          have hJe : (hv (hv J [45] [(8, 1), (8, 2), (8, 3), (8, 4), (8, 5), (8, 6), (8, 7), (8, 8), (8, 9)] u36) [] [(3, 1), (3, 2), (3, 3), (27, 0), (27, 2)] u50.1) = hv J [42, 45] [(3, 1), (3, 2), (3, 3), (8, 1), (8, 2), (8, 3), (8, 4), (8, 5), (8, 6), (8, 7), (8, 8), (8, 9), (27, 0), (27, 2)] (hv (hv J [45] [(8, 1), (8, 2), (8, 3), (8, 4), (8, 5), (8, 6), (8, 7), (8, 8), (8, 9)] u36) [] [(3, 1), (3, 2), (3, 3), (27, 0), (27, 2)] u50.1) := ag_hvE (J := J) (R := [42, 45]) (F := [(3, 1), (3, 2), (3, 3), (8, 1), (8, 2), (8, 3), (8, 4), (8, 5), (8, 6), (8, 7), (8, 8), (8, 9), (27, 0), (27, 2)]) (ag_hv rfl rfl (ag_hv rfl rfl ag_rf))
                          have hIe : (hv (hv (hv (up3 (up3 (up3 (up3 (up3 (up3 (up3 (up3 (up3 (clr I 9 q39 0) 9 4 q39 (-9)) 9 6 q39 (-9)) 9 0 q39 (J 3 1)) 9 1 q39 u40) 9 2 q39 a0) 9 3 q39 (J 4 4)) 9 4 q39 a1) 9 5 q39 x41) 9 6 q39 (-9)) [] [] u50.2.1) [] [(7, 1), (7, 2)] u51) [] [(5, 2)] u52) = hv I [9] [(5, 2), (7, 1), (7, 2)] (hv (hv (hv (up3 (up3 (up3 (up3 (up3 (up3 (up3 (up3 (up3 (clr I 9 q39 0) 9 4 q39 (-9)) 9 6 q39 (-9)) 9 0 q39 (J 3 1)) 9 1 q39 u40) 9 2 q39 a0) 9 3 q39 (J 4 4)) 9 4 q39 a1) 9 5 q39 x41) 9 6 q39 (-9)) [] [] u50.2.1) [] [(7, 1), (7, 2)] u51) [] [(5, 2)] u52) := ag_hvE (J := I) (R := [9]) (F := [(5, 2), (7, 1), (7, 2)]) (ag_hv rfl rfl (ag_hv rfl rfl (ag_hv rfl rfl (ag_up3 (Or.inl rfl) (ag_up3 (Or.inl rfl) (ag_up3 (Or.inl rfl) (ag_up3 (Or.inl rfl) (ag_up3 (Or.inl rfl) (ag_up3 (Or.inl rfl) (ag_up3 (Or.inl rfl) (ag_up3 (Or.inl rfl) (ag_up3 (Or.inl rfl) (ag_clr rfl ag_rf)))))))))))))
                          have hPe : (hv (clr P 9 q39 none) [37] [] u50.2.2.1) = hv P [9, 37] [] (hv (clr P 9 q39 none) [37] [] u50.2.2.1) := ag_hvE (J := P) (R := [9, 37]) (F := []) (ag_hv rfl rfl (ag_clr rfl ag_rf))
                          have hEe : (hv1 E [27] u50.2.2.2.1) = hv1 E [27] (hv1 E [27] u50.2.2.2.1) := hv1_e (R := [27]) (hv1_ag rfl (fun _ _ => rfl))
                          have hWr : WB g A s.heap H locs (hv J [42, 45] [(3, 1), (3, 2), (3, 3), (8, 1), (8, 2), (8, 3), (8, 4), (8, 5), (8, 6), (8, 7), (8, 8), (8, 9), (27, 0), (27, 2)] (hv (hv J [45] [(8, 1), (8, 2), (8, 3), (8, 4), (8, 5), (8, 6), (8, 7), (8, 8), (8, 9)] u36) [] [(3, 1), (3, 2), (3, 3), (27, 0), (27, 2)] u50.1), L, hv I [9] [(5, 2), (7, 1), (7, 2)] (hv (hv (hv (up3 (up3 (up3 (up3 (up3 (up3 (up3 (up3 (up3 (clr I 9 q39 0) 9 4 q39 (-9)) 9 6 q39 (-9)) 9 0 q39 (J 3 1)) 9 1 q39 u40) 9 2 q39 a0) 9 3 q39 (J 4 4)) 9 4 q39 a1) 9 5 q39 x41) 9 6 q39 (-9)) [] [] u50.2.1) [] [(7, 1), (7, 2)] u51) [] [(5, 2)] u52), hv P [9, 37] [] (hv (clr P 9 q39 none) [37] [] u50.2.2.1), hv1 E [27] (hv1 E [27] u50.2.2.2.1), u50.2.2.2.2.1) (sgX g ++ u50.2.2.2.2.2) := by
                            rw [← hJe, ← hIe, ← hPe, ← hEe]; exact hW
                          have hwr : WXF g (hv J [42, 45] [(3, 1), (3, 2), (3, 3), (8, 1), (8, 2), (8, 3), (8, 4), (8, 5), (8, 6), (8, 7), (8, 8), (8, 9), (27, 0), (27, 2)] (hv (hv J [45] [(8, 1), (8, 2), (8, 3), (8, 4), (8, 5), (8, 6), (8, 7), (8, 8), (8, 9)] u36) [] [(3, 1), (3, 2), (3, 3), (27, 0), (27, 2)] u50.1)) (hv P [9, 37] [] (hv (clr P 9 q39 none) [37] [] u50.2.2.1)) (hv1 E [27] (hv1 E [27] u50.2.2.2.1)) u50.2.2.2.2.1 u50.2.2.2.2.2 := by
                            rw [← hJe, ← hPe, ← hEe]; exact hwf
                          refine W.widen (k := 10) (n := 20100) (Nat.le_of_ble_eq_true rfl) (Nat.le_of_ble_eq_true rfl) ?_
                          exact end_i C hr hlocks ((hv (hv J [45] [(8, 1), (8, 2), (8, 3), (8, 4), (8, 5), (8, 6), (8, 7), (8, 8), (8, 9)] u36) [] [(3, 1), (3, 2), (3, 3), (27, 0), (27, 2)] u50.1), (hv (hv (hv (up3 (up3 (up3 (up3 (up3 (up3 (up3 (up3 (up3 (clr I 9 q39 0) 9 4 q39 (-9)) 9 6 q39 (-9)) 9 0 q39 (J 3 1)) 9 1 q39 u40) 9 2 q39 a0) 9 3 q39 (J 4 4)) 9 4 q39 a1) 9 5 q39 x41) 9 6 q39 (-9)) [] [] u50.2.1) [] [(7, 1), (7, 2)] u51) [] [(5, 2)] u52), (hv (clr P 9 q39 none) [37] [] u50.2.2.1), (hv1 E [27] u50.2.2.2.1), u50.2.2.2.2.1, u50.2.2.2.2.2) hWr ⟨hwr, fun x hx => hd50 x ((fun x hx => List.mem_append_left _ ((fun x hx => hx) x hx)) x hx), show 0 ≤ (u50.1 3 1).toInt ∧ (u50.1 3 1).toInt ≤ 9999 ∧ (u50.1 27 2).toInt ≤ (u50.1 3 1).toInt from by first | omega | exact ⟨by omega, by omega, by omega⟩⟩ dX11_say_221
                        · have c48 : 0 ≤ a2.toInt := tnlt rfl kp0 c48
                          refine lv_iload_n hx hb dX11_say_186 rfl (lv_at hl 6 rfl) ?_
                          refine lv_goto (tgt := 192) hx hb dX11_say_187 (by decide) ?_
                          refine rp_9_6 C hW (List.mem_append_right _ (List.mem_append_right _ (List.mem_singleton.mpr rfl))) tw_438 dX11_say_192 (fun H locs hW => ?_)
                          refine lv_aload_n hx hb dX11_say_195 rfl (lv_at hl 3 rfl) ?_
                          refine rg_12_1 C hW (mx_ rfl) tw_365 dX11_say_196 ?_
                          refine lv_aload hx hb dX11_say_199 (lv_at hl 0 rfl) ?_
                          have hi53 : (up3 (up3 (up3 (up3 (up3 (up3 (up3 (up3 (up3 (clr I 9 q39 0) 9 4 q39 (-9)) 9 6 q39 (-9)) 9 0 q39 (J 3 1)) 9 1 q39 u40) 9 2 q39 a0) 9 3 q39 (J 4 4)) 9 4 q39 a1) 9 5 q39 x41) 9 6 q39 a2) 9 1 q39 = u40 := (show (up3 (up3 (up3 (up3 (clr I 9 q39 0) 9 4 q39 (-9)) 9 6 q39 (-9)) 9 0 q39 (J 3 1)) 9 1 q39 u40) 9 1 q39 = _ from up3_s _ _ _ _ _)
                          refine cv_ C hW (runV (x := (g.2.2.1 3)) (As := [.ref q39]) (rest := []) (T := (((hv J [45] [(8, 1), (8, 2), (8, 3), (8, 4), (8, 5), (8, 6), (8, 7), (8, 8), (8, 9)] u36), L, (up3 (up3 (up3 (up3 (up3 (up3 (up3 (up3 (up3 (clr I 9 q39 0) 9 4 q39 (-9)) 9 6 q39 (-9)) 9 0 q39 (J 3 1)) 9 1 q39 u40) 9 2 q39 a0) 9 3 q39 (J 4 4)) 9 4 q39 a1) 9 5 q39 x41) 9 6 q39 a2), (clr P 9 q39 none), E, N), sgX g ++ (dy ++ [(9, q39)]))) C hW (c_X2_goBy l g (hv J [45] [(8, 1), (8, 2), (8, 3), (8, 4), (8, 5), (8, 6), (8, 7), (8, 8), (8, 9)] u36) L (up3 (up3 (up3 (up3 (up3 (up3 (up3 (up3 (up3 (clr I 9 q39 0) 9 4 q39 (-9)) 9 6 q39 (-9)) 9 0 q39 (J 3 1)) 9 1 q39 u40) 9 2 q39 a0) 9 3 q39 (J 4 4)) 9 4 q39 a1) 9 5 q39 x41) 9 6 q39 a2) (clr P 9 q39 none) E N (dy ++ [(9, q39)]) H.size q39 (List.mem_append_right _ (List.mem_singleton.mpr rfl)) hwf (show 0 ≤ (((up3 (up3 (up3 (up3 (up3 (up3 (up3 (up3 (up3 (clr I 9 q39 0) 9 4 q39 (-9)) 9 6 q39 (-9)) 9 0 q39 (J 3 1)) 9 1 q39 u40) 9 2 q39 a0) 9 3 q39 (J 4 4)) 9 4 q39 a1) 9 5 q39 x41) 9 6 q39 a2) 9 1 q39)).toInt ∧ (((up3 (up3 (up3 (up3 (up3 (up3 (up3 (up3 (up3 (clr I 9 q39 0) 9 4 q39 (-9)) 9 6 q39 (-9)) 9 0 q39 (J 3 1)) 9 1 q39 u40) 9 2 q39 a0) 9 3 q39 (J 4 4)) 9 4 q39 a1) 9 5 q39 x41) 9 6 q39 a2) 9 1 q39)).toInt ≤ 9998 from by rw [hi53]; omega) (show (J 27 2).toInt ≤ 9999 from by omega)) mi_X2_goBy tw_454 (recv_ (T := (((hv J [45] [(8, 1), (8, 2), (8, 3), (8, 4), (8, 5), (8, 6), (8, 7), (8, 8), (8, 9)] u36), L, (up3 (up3 (up3 (up3 (up3 (up3 (up3 (up3 (up3 (clr I 9 q39 0) 9 4 q39 (-9)) 9 6 q39 (-9)) 9 0 q39 (J 3 1)) 9 1 q39 u40) 9 2 q39 a0) 9 3 q39 (J 4 4)) 9 4 q39 a1) 9 5 q39 x41) 9 6 q39 a2), (clr P 9 q39 none), E, N), sgX g ++ (dy ++ [(9, q39)]))) C hW (mx_ rfl) rfl rfl) ⟨rfl, rfl, Nat.le_of_ble_eq_true rfl, Nat.le_of_ble_eq_true rfl⟩ rfl hl.1 rfl (Nat.le_of_ble_eq_true rfl) dX11_say_201 ⟨Nat.le_of_ble_eq_true rfl, Nat.le_of_ble_eq_true rfl⟩) (fun u54 H locs hp54 hW => ?_)
                          have hW : WB g A s.heap H locs ((hv (hv J [45] [(8, 1), (8, 2), (8, 3), (8, 4), (8, 5), (8, 6), (8, 7), (8, 8), (8, 9)] u36) [] [(3, 1), (3, 2), (3, 3), (27, 0), (27, 2)] u54.1), L, (hv (up3 (up3 (up3 (up3 (up3 (up3 (up3 (up3 (up3 (clr I 9 q39 0) 9 4 q39 (-9)) 9 6 q39 (-9)) 9 0 q39 (J 3 1)) 9 1 q39 u40) 9 2 q39 a0) 9 3 q39 (J 4 4)) 9 4 q39 a1) 9 5 q39 x41) 9 6 q39 a2) [] [] u54.2.1), (hv (clr P 9 q39 none) [37] [] u54.2.2.1), (hv1 E [27] u54.2.2.2.1), u54.2.2.2.2.1) (sgX g ++ u54.2.2.2.2.2) := hW
                          obtain ⟨hwf, hd54, hf54_0, hf54_1⟩ : WXF g (hv (hv J [45] [(8, 1), (8, 2), (8, 3), (8, 4), (8, 5), (8, 6), (8, 7), (8, 8), (8, 9)] u36) [] [(3, 1), (3, 2), (3, 3), (27, 0), (27, 2)] u54.1) (hv (clr P 9 q39 none) [37] [] u54.2.2.1) (hv1 E [27] u54.2.2.2.1) u54.2.2.2.2.1 u54.2.2.2.2.2 ∧ (∀ x ∈ (dy ++ [(9, q39)]), x ∈ u54.2.2.2.2.2) ∧ ((u54.1 3 1).toInt = (((up3 (up3 (up3 (up3 (up3 (up3 (up3 (up3 (up3 (clr I 9 q39 0) 9 4 q39 (-9)) 9 6 q39 (-9)) 9 0 q39 (J 3 1)) 9 1 q39 u40) 9 2 q39 a0) 9 3 q39 (J 4 4)) 9 4 q39 a1) 9 5 q39 x41) 9 6 q39 a2) 9 1 q39)).toInt + 1) ∧ ((u54.1 27 2).toInt = (J 27 2).toInt + 1) := hp54
                          rw [hi53] at hf54_0
                          refine lv_aload hx hb dX11_say_204 (lv_at hl 2 rfl) ?_
                          refine lv_iload hx hb dX11_say_206 (lv_at hl 1 rfl) ?_
                          refine cv_ C hW (runV (x := o6) (As := [.int (J 3 1)]) (rest := []) (T := (((hv (hv J [45] [(8, 1), (8, 2), (8, 3), (8, 4), (8, 5), (8, 6), (8, 7), (8, 8), (8, 9)] u36) [] [(3, 1), (3, 2), (3, 3), (27, 0), (27, 2)] u54.1), L, (hv (up3 (up3 (up3 (up3 (up3 (up3 (up3 (up3 (up3 (clr I 9 q39 0) 9 4 q39 (-9)) 9 6 q39 (-9)) 9 0 q39 (J 3 1)) 9 1 q39 u40) 9 2 q39 a0) 9 3 q39 (J 4 4)) 9 4 q39 a1) 9 5 q39 x41) 9 6 q39 a2) [] [] u54.2.1), (hv (clr P 9 q39 none) [37] [] u54.2.2.1), (hv1 E [27] u54.2.2.2.1), u54.2.2.2.2.1), sgX g ++ u54.2.2.2.2.2)) C hW (c_X6_readIn l g (hv (hv J [45] [(8, 1), (8, 2), (8, 3), (8, 4), (8, 5), (8, 6), (8, 7), (8, 8), (8, 9)] u36) [] [(3, 1), (3, 2), (3, 3), (27, 0), (27, 2)] u54.1) L (hv (up3 (up3 (up3 (up3 (up3 (up3 (up3 (up3 (up3 (clr I 9 q39 0) 9 4 q39 (-9)) 9 6 q39 (-9)) 9 0 q39 (J 3 1)) 9 1 q39 u40) 9 2 q39 a0) 9 3 q39 (J 4 4)) 9 4 q39 a1) 9 5 q39 x41) 9 6 q39 a2) [] [] u54.2.1) (hv (clr P 9 q39 none) [37] [] u54.2.2.1) (hv1 E [27] u54.2.2.2.1) u54.2.2.2.2.1 u54.2.2.2.2.2 H.size o6 (hd54 _ (List.mem_append_left _ hm6)) (J 3 1) hwf) mi_X6_readIn tw_696 (recv_ (T := (((hv (hv J [45] [(8, 1), (8, 2), (8, 3), (8, 4), (8, 5), (8, 6), (8, 7), (8, 8), (8, 9)] u36) [] [(3, 1), (3, 2), (3, 3), (27, 0), (27, 2)] u54.1), L, (hv (up3 (up3 (up3 (up3 (up3 (up3 (up3 (up3 (up3 (clr I 9 q39 0) 9 4 q39 (-9)) 9 6 q39 (-9)) 9 0 q39 (J 3 1)) 9 1 q39 u40) 9 2 q39 a0) 9 3 q39 (J 4 4)) 9 4 q39 a1) 9 5 q39 x41) 9 6 q39 a2) [] [] u54.2.1), (hv (clr P 9 q39 none) [37] [] u54.2.2.1), (hv1 E [27] u54.2.2.2.1), u54.2.2.2.2.1), sgX g ++ u54.2.2.2.2.2)) C hW (List.mem_append_right _ (hd54 _ (List.mem_append_left _ hm6))) rfl rfl) ⟨rfl, rfl, Nat.le_of_ble_eq_true rfl, Nat.le_of_ble_eq_true rfl⟩ rfl hl.1 rfl (Nat.le_of_ble_eq_true rfl) dX11_say_208 ⟨Nat.le_of_ble_eq_true rfl, Nat.le_of_ble_eq_true rfl⟩) (fun u55 H locs hp55 hW => ?_)
                          have hW : WB g A s.heap H locs ((hv (hv J [45] [(8, 1), (8, 2), (8, 3), (8, 4), (8, 5), (8, 6), (8, 7), (8, 8), (8, 9)] u36) [] [(3, 1), (3, 2), (3, 3), (27, 0), (27, 2)] u54.1), L, (hv (hv (up3 (up3 (up3 (up3 (up3 (up3 (up3 (up3 (up3 (clr I 9 q39 0) 9 4 q39 (-9)) 9 6 q39 (-9)) 9 0 q39 (J 3 1)) 9 1 q39 u40) 9 2 q39 a0) 9 3 q39 (J 4 4)) 9 4 q39 a1) 9 5 q39 x41) 9 6 q39 a2) [] [] u54.2.1) [] [(7, 1), (7, 2)] u55), (hv (clr P 9 q39 none) [37] [] u54.2.2.1), (hv1 E [27] u54.2.2.2.1), u54.2.2.2.2.1) (sgX g ++ u54.2.2.2.2.2) := hW
                          refine lv_aload_n hx hb dX11_say_211 rfl (lv_at hl 3 rfl) ?_
                          refine lv_iload_n hx hb dX11_say_212 rfl (lv_at hl 4 rfl) ?_
                          refine lv_iload_n hx hb dX11_say_213 rfl (lv_at hl 6 rfl) ?_
                          refine lv_iload hx hb dX11_say_214 (lv_at hl 1 rfl) ?_
                          refine cv_ C hW (runV (x := (g.2.2.1 12)) (As := [.int a0, .int a2, .int (J 3 1)]) (rest := []) (T := (((hv (hv J [45] [(8, 1), (8, 2), (8, 3), (8, 4), (8, 5), (8, 6), (8, 7), (8, 8), (8, 9)] u36) [] [(3, 1), (3, 2), (3, 3), (27, 0), (27, 2)] u54.1), L, (hv (hv (up3 (up3 (up3 (up3 (up3 (up3 (up3 (up3 (up3 (clr I 9 q39 0) 9 4 q39 (-9)) 9 6 q39 (-9)) 9 0 q39 (J 3 1)) 9 1 q39 u40) 9 2 q39 a0) 9 3 q39 (J 4 4)) 9 4 q39 a1) 9 5 q39 x41) 9 6 q39 a2) [] [] u54.2.1) [] [(7, 1), (7, 2)] u55), (hv (clr P 9 q39 none) [37] [] u54.2.2.1), (hv1 E [27] u54.2.2.2.1), u54.2.2.2.2.1), sgX g ++ u54.2.2.2.2.2)) C hW (c_X11_markRead l g (hv (hv J [45] [(8, 1), (8, 2), (8, 3), (8, 4), (8, 5), (8, 6), (8, 7), (8, 8), (8, 9)] u36) [] [(3, 1), (3, 2), (3, 3), (27, 0), (27, 2)] u54.1) L (hv (hv (up3 (up3 (up3 (up3 (up3 (up3 (up3 (up3 (up3 (clr I 9 q39 0) 9 4 q39 (-9)) 9 6 q39 (-9)) 9 0 q39 (J 3 1)) 9 1 q39 u40) 9 2 q39 a0) 9 3 q39 (J 4 4)) 9 4 q39 a1) 9 5 q39 x41) 9 6 q39 a2) [] [] u54.2.1) [] [(7, 1), (7, 2)] u55) (hv (clr P 9 q39 none) [37] [] u54.2.2.1) (hv1 E [27] u54.2.2.2.1) u54.2.2.2.2.1 u54.2.2.2.2.2 H.size a0 a2 (J 3 1) hwf) mi_X11_markRead tw_700 (recv_ (T := (((hv (hv J [45] [(8, 1), (8, 2), (8, 3), (8, 4), (8, 5), (8, 6), (8, 7), (8, 8), (8, 9)] u36) [] [(3, 1), (3, 2), (3, 3), (27, 0), (27, 2)] u54.1), L, (hv (hv (up3 (up3 (up3 (up3 (up3 (up3 (up3 (up3 (up3 (clr I 9 q39 0) 9 4 q39 (-9)) 9 6 q39 (-9)) 9 0 q39 (J 3 1)) 9 1 q39 u40) 9 2 q39 a0) 9 3 q39 (J 4 4)) 9 4 q39 a1) 9 5 q39 x41) 9 6 q39 a2) [] [] u54.2.1) [] [(7, 1), (7, 2)] u55), (hv (clr P 9 q39 none) [37] [] u54.2.2.1), (hv1 E [27] u54.2.2.2.1), u54.2.2.2.2.1), sgX g ++ u54.2.2.2.2.2)) C hW (mx_ rfl) rfl rfl) ⟨rfl, rfl, Nat.le_of_ble_eq_true rfl, Nat.le_of_ble_eq_true rfl⟩ rfl hl.1 rfl (Nat.le_of_ble_eq_true rfl) dX11_say_216 ⟨Nat.le_of_ble_eq_true rfl, Nat.le_of_ble_eq_true rfl⟩) (fun u56 H locs hp56 hW => ?_)
                          have hW : WB g A s.heap H locs ((hv (hv J [45] [(8, 1), (8, 2), (8, 3), (8, 4), (8, 5), (8, 6), (8, 7), (8, 8), (8, 9)] u36) [] [(3, 1), (3, 2), (3, 3), (27, 0), (27, 2)] u54.1), L, (hv (hv (hv (up3 (up3 (up3 (up3 (up3 (up3 (up3 (up3 (up3 (clr I 9 q39 0) 9 4 q39 (-9)) 9 6 q39 (-9)) 9 0 q39 (J 3 1)) 9 1 q39 u40) 9 2 q39 a0) 9 3 q39 (J 4 4)) 9 4 q39 a1) 9 5 q39 x41) 9 6 q39 a2) [] [] u54.2.1) [] [(7, 1), (7, 2)] u55) [] [(5, 2)] u56), (hv (clr P 9 q39 none) [37] [] u54.2.2.1), (hv1 E [27] u54.2.2.2.1), u54.2.2.2.2.1) (sgX g ++ u54.2.2.2.2.2) := hW
                          refine lv_iload hx hb dX11_say_219 (lv_at hl 1 rfl) ?_
                          have hJe : (hv (hv J [45] [(8, 1), (8, 2), (8, 3), (8, 4), (8, 5), (8, 6), (8, 7), (8, 8), (8, 9)] u36) [] [(3, 1), (3, 2), (3, 3), (27, 0), (27, 2)] u54.1) = hv J [42, 45] [(3, 1), (3, 2), (3, 3), (8, 1), (8, 2), (8, 3), (8, 4), (8, 5), (8, 6), (8, 7), (8, 8), (8, 9), (27, 0), (27, 2)] (hv (hv J [45] [(8, 1), (8, 2), (8, 3), (8, 4), (8, 5), (8, 6), (8, 7), (8, 8), (8, 9)] u36) [] [(3, 1), (3, 2), (3, 3), (27, 0), (27, 2)] u54.1) := ag_hvE (J := J) (R := [42, 45]) (F := [(3, 1), (3, 2), (3, 3), (8, 1), (8, 2), (8, 3), (8, 4), (8, 5), (8, 6), (8, 7), (8, 8), (8, 9), (27, 0), (27, 2)]) (ag_hv rfl rfl (ag_hv rfl rfl ag_rf))
                          have hIe : (hv (hv (hv (up3 (up3 (up3 (up3 (up3 (up3 (up3 (up3 (up3 (clr I 9 q39 0) 9 4 q39 (-9)) 9 6 q39 (-9)) 9 0 q39 (J 3 1)) 9 1 q39 u40) 9 2 q39 a0) 9 3 q39 (J 4 4)) 9 4 q39 a1) 9 5 q39 x41) 9 6 q39 a2) [] [] u54.2.1) [] [(7, 1), (7, 2)] u55) [] [(5, 2)] u56) = hv I [9] [(5, 2), (7, 1), (7, 2)] (hv (hv (hv (up3 (up3 (up3 (up3 (up3 (up3 (up3 (up3 (up3 (clr I 9 q39 0) 9 4 q39 (-9)) 9 6 q39 (-9)) 9 0 q39 (J 3 1)) 9 1 q39 u40) 9 2 q39 a0) 9 3 q39 (J 4 4)) 9 4 q39 a1) 9 5 q39 x41) 9 6 q39 a2) [] [] u54.2.1) [] [(7, 1), (7, 2)] u55) [] [(5, 2)] u56) := ag_hvE (J := I) (R := [9]) (F := [(5, 2), (7, 1), (7, 2)]) (ag_hv rfl rfl (ag_hv rfl rfl (ag_hv rfl rfl (ag_up3 (Or.inl rfl) (ag_up3 (Or.inl rfl) (ag_up3 (Or.inl rfl) (ag_up3 (Or.inl rfl) (ag_up3 (Or.inl rfl) (ag_up3 (Or.inl rfl) (ag_up3 (Or.inl rfl) (ag_up3 (Or.inl rfl) (ag_up3 (Or.inl rfl) (ag_clr rfl ag_rf)))))))))))))
                          have hPe : (hv (clr P 9 q39 none) [37] [] u54.2.2.1) = hv P [9, 37] [] (hv (clr P 9 q39 none) [37] [] u54.2.2.1) := ag_hvE (J := P) (R := [9, 37]) (F := []) (ag_hv rfl rfl (ag_clr rfl ag_rf))
                          have hEe : (hv1 E [27] u54.2.2.2.1) = hv1 E [27] (hv1 E [27] u54.2.2.2.1) := hv1_e (R := [27]) (hv1_ag rfl (fun _ _ => rfl))
                          have hWr : WB g A s.heap H locs (hv J [42, 45] [(3, 1), (3, 2), (3, 3), (8, 1), (8, 2), (8, 3), (8, 4), (8, 5), (8, 6), (8, 7), (8, 8), (8, 9), (27, 0), (27, 2)] (hv (hv J [45] [(8, 1), (8, 2), (8, 3), (8, 4), (8, 5), (8, 6), (8, 7), (8, 8), (8, 9)] u36) [] [(3, 1), (3, 2), (3, 3), (27, 0), (27, 2)] u54.1), L, hv I [9] [(5, 2), (7, 1), (7, 2)] (hv (hv (hv (up3 (up3 (up3 (up3 (up3 (up3 (up3 (up3 (up3 (clr I 9 q39 0) 9 4 q39 (-9)) 9 6 q39 (-9)) 9 0 q39 (J 3 1)) 9 1 q39 u40) 9 2 q39 a0) 9 3 q39 (J 4 4)) 9 4 q39 a1) 9 5 q39 x41) 9 6 q39 a2) [] [] u54.2.1) [] [(7, 1), (7, 2)] u55) [] [(5, 2)] u56), hv P [9, 37] [] (hv (clr P 9 q39 none) [37] [] u54.2.2.1), hv1 E [27] (hv1 E [27] u54.2.2.2.1), u54.2.2.2.2.1) (sgX g ++ u54.2.2.2.2.2) := by
                            rw [← hJe, ← hIe, ← hPe, ← hEe]; exact hW
                          have hwr : WXF g (hv J [42, 45] [(3, 1), (3, 2), (3, 3), (8, 1), (8, 2), (8, 3), (8, 4), (8, 5), (8, 6), (8, 7), (8, 8), (8, 9), (27, 0), (27, 2)] (hv (hv J [45] [(8, 1), (8, 2), (8, 3), (8, 4), (8, 5), (8, 6), (8, 7), (8, 8), (8, 9)] u36) [] [(3, 1), (3, 2), (3, 3), (27, 0), (27, 2)] u54.1)) (hv P [9, 37] [] (hv (clr P 9 q39 none) [37] [] u54.2.2.1)) (hv1 E [27] (hv1 E [27] u54.2.2.2.1)) u54.2.2.2.2.1 u54.2.2.2.2.2 := by
                            rw [← hJe, ← hPe, ← hEe]; exact hwf
                          refine W.widen (k := 10) (n := 20100) (Nat.le_of_ble_eq_true rfl) (Nat.le_of_ble_eq_true rfl) ?_
                          exact end_i C hr hlocks ((hv (hv J [45] [(8, 1), (8, 2), (8, 3), (8, 4), (8, 5), (8, 6), (8, 7), (8, 8), (8, 9)] u36) [] [(3, 1), (3, 2), (3, 3), (27, 0), (27, 2)] u54.1), (hv (hv (hv (up3 (up3 (up3 (up3 (up3 (up3 (up3 (up3 (up3 (clr I 9 q39 0) 9 4 q39 (-9)) 9 6 q39 (-9)) 9 0 q39 (J 3 1)) 9 1 q39 u40) 9 2 q39 a0) 9 3 q39 (J 4 4)) 9 4 q39 a1) 9 5 q39 x41) 9 6 q39 a2) [] [] u54.2.1) [] [(7, 1), (7, 2)] u55) [] [(5, 2)] u56), (hv (clr P 9 q39 none) [37] [] u54.2.2.1), (hv1 E [27] u54.2.2.2.1), u54.2.2.2.2.1, u54.2.2.2.2.2) hWr ⟨hwr, fun x hx => hd54 x ((fun x hx => List.mem_append_left _ ((fun x hx => hx) x hx)) x hx), show 0 ≤ (u54.1 3 1).toInt ∧ (u54.1 3 1).toInt ≤ 9999 ∧ (u54.1 27 2).toInt ≤ (u54.1 3 1).toInt from by first | omega | exact ⟨by omega, by omega, by omega⟩⟩ dX11_say_221
                    · have c38 : 9999 ≤ (J 3 1).toInt := tnlt rfl kp9999 c38
                      refine lv_aload_n hx hb dX11_say_121 rfl (lv_at hl 1 rfl) ?_
                      refine lv_bipush (v := (-6)) hx hb dX11_say_122 (by decide) ?_
                      refine ci_ C hW (runV (x := (g.2.2.1 12)) (As := [.int (-6)]) (rest := []) (T := (((hv J [45] [(8, 1), (8, 2), (8, 3), (8, 4), (8, 5), (8, 6), (8, 7), (8, 8), (8, 9)] u36), L, I, P, E, N), sgX g ++ dy)) C hW (c_X11_refuse l g (hv J [45] [(8, 1), (8, 2), (8, 3), (8, 4), (8, 5), (8, 6), (8, 7), (8, 8), (8, 9)] u36) L I P E N dy H.size (-6) hwf) mi_X11_refuse tw_411 (recv_ (T := (((hv J [45] [(8, 1), (8, 2), (8, 3), (8, 4), (8, 5), (8, 6), (8, 7), (8, 8), (8, 9)] u36), L, I, P, E, N), sgX g ++ dy)) C hW (mx_ rfl) rfl rfl) ⟨rfl, rfl, Nat.le_of_ble_eq_true rfl, Nat.le_of_ble_eq_true rfl⟩ rfl hl.1 rfl (Nat.le_of_ble_eq_true rfl) dX11_say_124 ⟨Nat.le_of_ble_eq_true rfl, Nat.le_of_ble_eq_true rfl⟩) (fun r57 u57 H locs hp57 hW => ?_)
                      have hc57 : ((r57 = (-6))) := hp57
                      clear hp57
                      have hr57 : r57.toInt = (-6) := by rw [hc57]; exact kn6
                      have hW : WB g A s.heap H locs ((hv (hv J [45] [(8, 1), (8, 2), (8, 3), (8, 4), (8, 5), (8, 6), (8, 7), (8, 8), (8, 9)] u36) [42] [] u57), L, I, P, E, N) (sgX g ++ dy) := hW
                      have hJe : (hv (hv J [45] [(8, 1), (8, 2), (8, 3), (8, 4), (8, 5), (8, 6), (8, 7), (8, 8), (8, 9)] u36) [42] [] u57) = hv J [42, 45] [(3, 1), (3, 2), (3, 3), (8, 1), (8, 2), (8, 3), (8, 4), (8, 5), (8, 6), (8, 7), (8, 8), (8, 9), (27, 0), (27, 2)] (hv (hv J [45] [(8, 1), (8, 2), (8, 3), (8, 4), (8, 5), (8, 6), (8, 7), (8, 8), (8, 9)] u36) [42] [] u57) := ag_hvE (J := J) (R := [42, 45]) (F := [(3, 1), (3, 2), (3, 3), (8, 1), (8, 2), (8, 3), (8, 4), (8, 5), (8, 6), (8, 7), (8, 8), (8, 9), (27, 0), (27, 2)]) (ag_hv rfl rfl (ag_hv rfl rfl ag_rf))
                      have hIe : I = hv I [9] [(5, 2), (7, 1), (7, 2)] I := ag_hvE (J := I) (R := [9]) (F := [(5, 2), (7, 1), (7, 2)]) ag_rf
                      have hPe : P = hv P [9, 37] [] P := ag_hvE (J := P) (R := [9, 37]) (F := []) ag_rf
                      have hEe : E = hv1 E [27] E := hv1_e (R := [27]) (fun _ _ => rfl)
                      have hWr : WB g A s.heap H locs (hv J [42, 45] [(3, 1), (3, 2), (3, 3), (8, 1), (8, 2), (8, 3), (8, 4), (8, 5), (8, 6), (8, 7), (8, 8), (8, 9), (27, 0), (27, 2)] (hv (hv J [45] [(8, 1), (8, 2), (8, 3), (8, 4), (8, 5), (8, 6), (8, 7), (8, 8), (8, 9)] u36) [42] [] u57), L, hv I [9] [(5, 2), (7, 1), (7, 2)] I, hv P [9, 37] [] P, hv1 E [27] E, N) (sgX g ++ dy) := by
                        rw [← hJe, ← hIe, ← hPe, ← hEe]; exact hW
                      have hwr : WXF g (hv J [42, 45] [(3, 1), (3, 2), (3, 3), (8, 1), (8, 2), (8, 3), (8, 4), (8, 5), (8, 6), (8, 7), (8, 8), (8, 9), (27, 0), (27, 2)] (hv (hv J [45] [(8, 1), (8, 2), (8, 3), (8, 4), (8, 5), (8, 6), (8, 7), (8, 8), (8, 9)] u36) [42] [] u57)) (hv P [9, 37] [] P) (hv1 E [27] E) N dy := by
                        rw [← hJe, ← hPe, ← hEe]; exact hwf
                      refine W.widen (k := 10) (n := 20100) (Nat.le_of_ble_eq_true rfl) (Nat.le_of_ble_eq_true rfl) ?_
                      exact end_i C hr hlocks ((hv (hv J [45] [(8, 1), (8, 2), (8, 3), (8, 4), (8, 5), (8, 6), (8, 7), (8, 8), (8, 9)] u36) [42] [] u57), I, P, E, N, dy) hWr ⟨hwr, fun x hx => hx, show 0 ≤ (J 3 1).toInt ∧ (J 3 1).toInt ≤ 9999 ∧ (J 27 2).toInt ≤ (J 3 1).toInt from by first | omega | exact ⟨by omega, by omega, by omega⟩⟩ dX11_say_127
                  · have c37 : r36.toInt = 0 := teq rfl kp0 c37
                    refine lv_aload_n hx hb dX11_say_101 rfl (lv_at hl 1 rfl) ?_
                    refine lv_bipush (v := (-3)) hx hb dX11_say_102 (by decide) ?_
                    refine ci_ C hW (runV (x := (g.2.2.1 12)) (As := [.int (-3)]) (rest := []) (T := (((hv J [45] [(8, 1), (8, 2), (8, 3), (8, 4), (8, 5), (8, 6), (8, 7), (8, 8), (8, 9)] u36), L, I, P, E, N), sgX g ++ dy)) C hW (c_X11_refuse l g (hv J [45] [(8, 1), (8, 2), (8, 3), (8, 4), (8, 5), (8, 6), (8, 7), (8, 8), (8, 9)] u36) L I P E N dy H.size (-3) hwf) mi_X11_refuse tw_411 (recv_ (T := (((hv J [45] [(8, 1), (8, 2), (8, 3), (8, 4), (8, 5), (8, 6), (8, 7), (8, 8), (8, 9)] u36), L, I, P, E, N), sgX g ++ dy)) C hW (mx_ rfl) rfl rfl) ⟨rfl, rfl, Nat.le_of_ble_eq_true rfl, Nat.le_of_ble_eq_true rfl⟩ rfl hl.1 rfl (Nat.le_of_ble_eq_true rfl) dX11_say_104 ⟨Nat.le_of_ble_eq_true rfl, Nat.le_of_ble_eq_true rfl⟩) (fun r58 u58 H locs hp58 hW => ?_)
                    have hc58 : ((r58 = (-3))) := hp58
                    clear hp58
                    have hr58 : r58.toInt = (-3) := by rw [hc58]; exact kn3
                    have hW : WB g A s.heap H locs ((hv (hv J [45] [(8, 1), (8, 2), (8, 3), (8, 4), (8, 5), (8, 6), (8, 7), (8, 8), (8, 9)] u36) [42] [] u58), L, I, P, E, N) (sgX g ++ dy) := hW
                    have hJe : (hv (hv J [45] [(8, 1), (8, 2), (8, 3), (8, 4), (8, 5), (8, 6), (8, 7), (8, 8), (8, 9)] u36) [42] [] u58) = hv J [42, 45] [(3, 1), (3, 2), (3, 3), (8, 1), (8, 2), (8, 3), (8, 4), (8, 5), (8, 6), (8, 7), (8, 8), (8, 9), (27, 0), (27, 2)] (hv (hv J [45] [(8, 1), (8, 2), (8, 3), (8, 4), (8, 5), (8, 6), (8, 7), (8, 8), (8, 9)] u36) [42] [] u58) := ag_hvE (J := J) (R := [42, 45]) (F := [(3, 1), (3, 2), (3, 3), (8, 1), (8, 2), (8, 3), (8, 4), (8, 5), (8, 6), (8, 7), (8, 8), (8, 9), (27, 0), (27, 2)]) (ag_hv rfl rfl (ag_hv rfl rfl ag_rf))
                    have hIe : I = hv I [9] [(5, 2), (7, 1), (7, 2)] I := ag_hvE (J := I) (R := [9]) (F := [(5, 2), (7, 1), (7, 2)]) ag_rf
                    have hPe : P = hv P [9, 37] [] P := ag_hvE (J := P) (R := [9, 37]) (F := []) ag_rf
                    have hEe : E = hv1 E [27] E := hv1_e (R := [27]) (fun _ _ => rfl)
                    have hWr : WB g A s.heap H locs (hv J [42, 45] [(3, 1), (3, 2), (3, 3), (8, 1), (8, 2), (8, 3), (8, 4), (8, 5), (8, 6), (8, 7), (8, 8), (8, 9), (27, 0), (27, 2)] (hv (hv J [45] [(8, 1), (8, 2), (8, 3), (8, 4), (8, 5), (8, 6), (8, 7), (8, 8), (8, 9)] u36) [42] [] u58), L, hv I [9] [(5, 2), (7, 1), (7, 2)] I, hv P [9, 37] [] P, hv1 E [27] E, N) (sgX g ++ dy) := by
                      rw [← hJe, ← hIe, ← hPe, ← hEe]; exact hW
                    have hwr : WXF g (hv J [42, 45] [(3, 1), (3, 2), (3, 3), (8, 1), (8, 2), (8, 3), (8, 4), (8, 5), (8, 6), (8, 7), (8, 8), (8, 9), (27, 0), (27, 2)] (hv (hv J [45] [(8, 1), (8, 2), (8, 3), (8, 4), (8, 5), (8, 6), (8, 7), (8, 8), (8, 9)] u36) [42] [] u58)) (hv P [9, 37] [] P) (hv1 E [27] E) N dy := by
                      rw [← hJe, ← hPe, ← hEe]; exact hwf
                    refine W.widen (k := 10) (n := 20100) (Nat.le_of_ble_eq_true rfl) (Nat.le_of_ble_eq_true rfl) ?_
                    exact end_i C hr hlocks ((hv (hv J [45] [(8, 1), (8, 2), (8, 3), (8, 4), (8, 5), (8, 6), (8, 7), (8, 8), (8, 9)] u36) [42] [] u58), I, P, E, N, dy) hWr ⟨hwr, fun x hx => hx, show 0 ≤ (J 3 1).toInt ∧ (J 3 1).toInt ≤ 9999 ∧ (J 27 2).toInt ≤ (J 3 1).toInt from by first | omega | exact ⟨by omega, by omega, by omega⟩⟩ dX11_say_107
              · have c14 : r13.toInt = 0 := teq rfl kp0 c14
                refine lv_aload_n hx hb dX11_say_80 rfl (lv_at hl 1 rfl) ?_
                refine lv_bipush (v := (-3)) hx hb dX11_say_81 (by decide) ?_
                refine ci_ C hW (runV (x := (g.2.2.1 12)) (As := [.int (-3)]) (rest := []) (T := ((J, L, I, P, E, N), sgX g ++ dy)) C hW (c_X11_refuse l g J L I P E N dy H.size (-3) hwf) mi_X11_refuse tw_411 (recv_ (T := ((J, L, I, P, E, N), sgX g ++ dy)) C hW (mx_ rfl) rfl rfl) ⟨rfl, rfl, Nat.le_of_ble_eq_true rfl, Nat.le_of_ble_eq_true rfl⟩ rfl hl.1 rfl (Nat.le_of_ble_eq_true rfl) dX11_say_83 ⟨Nat.le_of_ble_eq_true rfl, Nat.le_of_ble_eq_true rfl⟩) (fun r59 u59 H locs hp59 hW => ?_)
                have hc59 : ((r59 = (-3))) := hp59
                clear hp59
                have hr59 : r59.toInt = (-3) := by rw [hc59]; exact kn3
                have hW : WB g A s.heap H locs ((hv J [42] [] u59), L, I, P, E, N) (sgX g ++ dy) := hW
                have hJe : (hv J [42] [] u59) = hv J [42, 45] [(3, 1), (3, 2), (3, 3), (8, 1), (8, 2), (8, 3), (8, 4), (8, 5), (8, 6), (8, 7), (8, 8), (8, 9), (27, 0), (27, 2)] (hv J [42] [] u59) := ag_hvE (J := J) (R := [42, 45]) (F := [(3, 1), (3, 2), (3, 3), (8, 1), (8, 2), (8, 3), (8, 4), (8, 5), (8, 6), (8, 7), (8, 8), (8, 9), (27, 0), (27, 2)]) (ag_hv rfl rfl ag_rf)
                have hIe : I = hv I [9] [(5, 2), (7, 1), (7, 2)] I := ag_hvE (J := I) (R := [9]) (F := [(5, 2), (7, 1), (7, 2)]) ag_rf
                have hPe : P = hv P [9, 37] [] P := ag_hvE (J := P) (R := [9, 37]) (F := []) ag_rf
                have hEe : E = hv1 E [27] E := hv1_e (R := [27]) (fun _ _ => rfl)
                have hWr : WB g A s.heap H locs (hv J [42, 45] [(3, 1), (3, 2), (3, 3), (8, 1), (8, 2), (8, 3), (8, 4), (8, 5), (8, 6), (8, 7), (8, 8), (8, 9), (27, 0), (27, 2)] (hv J [42] [] u59), L, hv I [9] [(5, 2), (7, 1), (7, 2)] I, hv P [9, 37] [] P, hv1 E [27] E, N) (sgX g ++ dy) := by
                  rw [← hJe, ← hIe, ← hPe, ← hEe]; exact hW
                have hwr : WXF g (hv J [42, 45] [(3, 1), (3, 2), (3, 3), (8, 1), (8, 2), (8, 3), (8, 4), (8, 5), (8, 6), (8, 7), (8, 8), (8, 9), (27, 0), (27, 2)] (hv J [42] [] u59)) (hv P [9, 37] [] P) (hv1 E [27] E) N dy := by
                  rw [← hJe, ← hPe, ← hEe]; exact hwf
                refine W.widen (k := 10) (n := 20100) (Nat.le_of_ble_eq_true rfl) (Nat.le_of_ble_eq_true rfl) ?_
                exact end_i C hr hlocks ((hv J [42] [] u59), I, P, E, N, dy) hWr ⟨hwr, fun x hx => hx, show 0 ≤ (J 3 1).toInt ∧ (J 3 1).toInt ≤ 9999 ∧ (J 27 2).toInt ≤ (J 3 1).toInt from by first | omega | exact ⟨by omega, by omega, by omega⟩⟩ dX11_say_86
          · have c9 : r8.toInt = 0 := teq rfl kp0 c9
            refine lv_aload_n hx hb dX11_say_42 rfl (lv_at hl 1 rfl) ?_
            refine lv_iconst (v := (-1)) hx hb dX11_say_43 (by decide) ?_
            refine ci_ C hW (runV (x := (g.2.2.1 12)) (As := [.int (-1)]) (rest := []) (T := ((J, L, I, P, E, N), sgX g ++ dy)) C hW (c_X11_refuse l g J L I P E N dy H.size (-1) hwf) mi_X11_refuse tw_411 (recv_ (T := ((J, L, I, P, E, N), sgX g ++ dy)) C hW (mx_ rfl) rfl rfl) ⟨rfl, rfl, Nat.le_of_ble_eq_true rfl, Nat.le_of_ble_eq_true rfl⟩ rfl hl.1 rfl (Nat.le_of_ble_eq_true rfl) dX11_say_44 ⟨Nat.le_of_ble_eq_true rfl, Nat.le_of_ble_eq_true rfl⟩) (fun r60 u60 H locs hp60 hW => ?_)
            have hc60 : ((r60 = (-1))) := hp60
            clear hp60
            have hr60 : r60.toInt = (-1) := by rw [hc60]; exact kn1
            have hW : WB g A s.heap H locs ((hv J [42] [] u60), L, I, P, E, N) (sgX g ++ dy) := hW
            have hJe : (hv J [42] [] u60) = hv J [42, 45] [(3, 1), (3, 2), (3, 3), (8, 1), (8, 2), (8, 3), (8, 4), (8, 5), (8, 6), (8, 7), (8, 8), (8, 9), (27, 0), (27, 2)] (hv J [42] [] u60) := ag_hvE (J := J) (R := [42, 45]) (F := [(3, 1), (3, 2), (3, 3), (8, 1), (8, 2), (8, 3), (8, 4), (8, 5), (8, 6), (8, 7), (8, 8), (8, 9), (27, 0), (27, 2)]) (ag_hv rfl rfl ag_rf)
            have hIe : I = hv I [9] [(5, 2), (7, 1), (7, 2)] I := ag_hvE (J := I) (R := [9]) (F := [(5, 2), (7, 1), (7, 2)]) ag_rf
            have hPe : P = hv P [9, 37] [] P := ag_hvE (J := P) (R := [9, 37]) (F := []) ag_rf
            have hEe : E = hv1 E [27] E := hv1_e (R := [27]) (fun _ _ => rfl)
            have hWr : WB g A s.heap H locs (hv J [42, 45] [(3, 1), (3, 2), (3, 3), (8, 1), (8, 2), (8, 3), (8, 4), (8, 5), (8, 6), (8, 7), (8, 8), (8, 9), (27, 0), (27, 2)] (hv J [42] [] u60), L, hv I [9] [(5, 2), (7, 1), (7, 2)] I, hv P [9, 37] [] P, hv1 E [27] E, N) (sgX g ++ dy) := by
              rw [← hJe, ← hIe, ← hPe, ← hEe]; exact hW
            have hwr : WXF g (hv J [42, 45] [(3, 1), (3, 2), (3, 3), (8, 1), (8, 2), (8, 3), (8, 4), (8, 5), (8, 6), (8, 7), (8, 8), (8, 9), (27, 0), (27, 2)] (hv J [42] [] u60)) (hv P [9, 37] [] P) (hv1 E [27] E) N dy := by
              rw [← hJe, ← hPe, ← hEe]; exact hwf
            refine W.widen (k := 10) (n := 20100) (Nat.le_of_ble_eq_true rfl) (Nat.le_of_ble_eq_true rfl) ?_
            exact end_i C hr hlocks ((hv J [42] [] u60), I, P, E, N, dy) hWr ⟨hwr, fun x hx => hx, show 0 ≤ (J 3 1).toInt ∧ (J 3 1).toInt ≤ 9999 ∧ (J 27 2).toInt ≤ (J 3 1).toInt from by first | omega | exact ⟨by omega, by omega, by omega⟩⟩ dX11_say_47
      · have c5 : a0.toInt = 3 := teq rfl kp3 c5
        refine lv_aload_n hx hb dX11_say_14 rfl (lv_at hl 0 rfl) ?_
        refine lv_bipush (v := (-2)) hx hb dX11_say_15 (by decide) ?_
        refine ci_ C hW (runV (x := (g.2.2.1 12)) (As := [.int (-2)]) (rest := []) (T := ((J, L, I, P, E, N), sgX g ++ dy)) C hW (c_X11_refuse l g J L I P E N dy H.size (-2) hwf) mi_X11_refuse tw_411 (recv_ (T := ((J, L, I, P, E, N), sgX g ++ dy)) C hW (mx_ rfl) rfl rfl) ⟨rfl, rfl, Nat.le_of_ble_eq_true rfl, Nat.le_of_ble_eq_true rfl⟩ rfl hl.1 rfl (Nat.le_of_ble_eq_true rfl) dX11_say_17 ⟨Nat.le_of_ble_eq_true rfl, Nat.le_of_ble_eq_true rfl⟩) (fun r61 u61 H locs hp61 hW => ?_)
        have hc61 : ((r61 = (-2))) := hp61
        clear hp61
        have hr61 : r61.toInt = (-2) := by rw [hc61]; exact kn2
        have hW : WB g A s.heap H locs ((hv J [42] [] u61), L, I, P, E, N) (sgX g ++ dy) := hW
        have hJe : (hv J [42] [] u61) = hv J [42, 45] [(3, 1), (3, 2), (3, 3), (8, 1), (8, 2), (8, 3), (8, 4), (8, 5), (8, 6), (8, 7), (8, 8), (8, 9), (27, 0), (27, 2)] (hv J [42] [] u61) := ag_hvE (J := J) (R := [42, 45]) (F := [(3, 1), (3, 2), (3, 3), (8, 1), (8, 2), (8, 3), (8, 4), (8, 5), (8, 6), (8, 7), (8, 8), (8, 9), (27, 0), (27, 2)]) (ag_hv rfl rfl ag_rf)
        have hIe : I = hv I [9] [(5, 2), (7, 1), (7, 2)] I := ag_hvE (J := I) (R := [9]) (F := [(5, 2), (7, 1), (7, 2)]) ag_rf
        have hPe : P = hv P [9, 37] [] P := ag_hvE (J := P) (R := [9, 37]) (F := []) ag_rf
        have hEe : E = hv1 E [27] E := hv1_e (R := [27]) (fun _ _ => rfl)
        have hWr : WB g A s.heap H locs (hv J [42, 45] [(3, 1), (3, 2), (3, 3), (8, 1), (8, 2), (8, 3), (8, 4), (8, 5), (8, 6), (8, 7), (8, 8), (8, 9), (27, 0), (27, 2)] (hv J [42] [] u61), L, hv I [9] [(5, 2), (7, 1), (7, 2)] I, hv P [9, 37] [] P, hv1 E [27] E, N) (sgX g ++ dy) := by
          rw [← hJe, ← hIe, ← hPe, ← hEe]; exact hW
        have hwr : WXF g (hv J [42, 45] [(3, 1), (3, 2), (3, 3), (8, 1), (8, 2), (8, 3), (8, 4), (8, 5), (8, 6), (8, 7), (8, 8), (8, 9), (27, 0), (27, 2)] (hv J [42] [] u61)) (hv P [9, 37] [] P) (hv1 E [27] E) N dy := by
          rw [← hJe, ← hPe, ← hEe]; exact hwf
        refine W.widen (k := 10) (n := 20100) (Nat.le_of_ble_eq_true rfl) (Nat.le_of_ble_eq_true rfl) ?_
        exact end_i C hr hlocks ((hv J [42] [] u61), I, P, E, N, dy) hWr ⟨hwr, fun x hx => hx, show 0 ≤ (J 3 1).toInt ∧ (J 3 1).toInt ≤ 9999 ∧ (J 27 2).toInt ≤ (J 3 1).toInt from by first | omega | exact ⟨by omega, by omega, by omega⟩⟩ dX11_say_20
