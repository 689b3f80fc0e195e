theorem dX11_refuse_0 : decode cX11_refuse 0 = .ok (.iload_n 1, 1) := dk_iload_n_1 (by decide +kernel)
theorem dX11_refuse_1 : decode cX11_refuse 1 = .ok (.ineg, 1) := dk_ineg (by decide +kernel)
theorem dX11_refuse_2 : decode cX11_refuse 2 = .ok (.istore_n 2, 1) := dk_istore_n_2 (by decide +kernel)
theorem dX11_refuse_3 : decode cX11_refuse 3 = .ok (.iload_n 2, 1) := dk_iload_n_2 (by decide +kernel)
theorem dX11_refuse_4 : decode cX11_refuse 4 = .ok (.ifCond .le 22, 3) := dk_ifCond_le (by decide +kernel)
theorem dX11_refuse_7 : decode cX11_refuse 7 = .ok (.iload_n 2, 1) := dk_iload_n_2 (by decide +kernel)
theorem dX11_refuse_8 : decode cX11_refuse 8 = .ok (.aload_n 0, 1) := dk_aload_n_0 (by decide +kernel)
theorem dX11_refuse_9 : decode cX11_refuse 9 = .ok (.getfield 57, 3) := dk_getfield (by decide +kernel)
theorem dX11_refuse_12 : decode cX11_refuse 12 = .ok (.arraylength, 1) := dk_arraylength (by decide +kernel)
theorem dX11_refuse_13 : decode cX11_refuse 13 = .ok (.if_icmp .ge 13, 3) := dk_if_icmp_ge (by decide +kernel)
theorem dX11_refuse_16 : decode cX11_refuse 16 = .ok (.aload_n 0, 1) := dk_aload_n_0 (by decide +kernel)
theorem dX11_refuse_17 : decode cX11_refuse 17 = .ok (.getfield 57, 3) := dk_getfield (by decide +kernel)
theorem dX11_refuse_20 : decode cX11_refuse 20 = .ok (.iload_n 2, 1) := dk_iload_n_2 (by decide +kernel)
theorem dX11_refuse_21 : decode cX11_refuse 21 = .ok (.dup2, 1) := dk_dup2 (by decide +kernel)
theorem dX11_refuse_22 : decode cX11_refuse 22 = .ok (.iaload, 1) := dk_iaload (by decide +kernel)
theorem dX11_refuse_23 : decode cX11_refuse 23 = .ok (.iconst 1, 1) := dk_iconst_1 (by decide +kernel)
theorem dX11_refuse_24 : decode cX11_refuse 24 = .ok (.iadd, 1) := dk_iadd (by decide +kernel)
theorem dX11_refuse_25 : decode cX11_refuse 25 = .ok (.iastore, 1) := dk_iastore (by decide +kernel)
theorem dX11_refuse_26 : decode cX11_refuse 26 = .ok (.iload_n 1, 1) := dk_iload_n_1 (by decide +kernel)
theorem dX11_refuse_27 : decode cX11_refuse 27 = .ok (.ireturn, 1) := dk_ireturn (by decide +kernel)
theorem dX11_voiceRefusal_0 : decode cX11_voiceRefusal 0 = .ok (.iload_n 0, 1) := dk_iload_n_0 (by decide +kernel)
theorem dX11_voiceRefusal_1 : decode cX11_voiceRefusal 1 = .ok (.iconst 1, 1) := dk_iconst_1 (by decide +kernel)
theorem dX11_voiceRefusal_2 : decode cX11_voiceRefusal 2 = .ok (.if_icmp .ge 6, 3) := dk_if_icmp_ge (by decide +kernel)
theorem dX11_voiceRefusal_5 : decode cX11_voiceRefusal 5 = .ok (.bipush (-4), 2) := dk_bipush (by decide +kernel)
theorem dX11_voiceRefusal_7 : decode cX11_voiceRefusal 7 = .ok (.ireturn, 1) := dk_ireturn (by decide +kernel)
theorem dX11_voiceRefusal_8 : decode cX11_voiceRefusal 8 = .ok (.iload_n 0, 1) := dk_iload_n_0 (by decide +kernel)
theorem dX11_voiceRefusal_9 : decode cX11_voiceRefusal 9 = .ok (.sipush 999, 3) := dk_sipush (by decide +kernel)
theorem dX11_voiceRefusal_12 : decode cX11_voiceRefusal 12 = .ok (.if_icmp .le 8, 3) := dk_if_icmp_le (by decide +kernel)
theorem dX11_voiceRefusal_15 : decode cX11_voiceRefusal 15 = .ok (.bipush (-6), 2) := dk_bipush (by decide +kernel)
theorem dX11_voiceRefusal_17 : decode cX11_voiceRefusal 17 = .ok (.goto 4, 3) := dk_goto (by decide +kernel)
theorem dX11_voiceRefusal_20 : decode cX11_voiceRefusal 20 = .ok (.iconst 0, 1) := dk_iconst_0 (by decide +kernel)
theorem dX11_voiceRefusal_21 : decode cX11_voiceRefusal 21 = .ok (.ireturn, 1) := dk_ireturn (by decide +kernel)
theorem dX11_weather_0 : decode cX11_weather 0 = .ok (.iload_n 1, 1) := dk_iload_n_1 (by decide +kernel)
theorem dX11_weather_1 : decode cX11_weather 1 = .ok (.ifCond .ge 10, 3) := dk_ifCond_ge (by decide +kernel)
theorem dX11_weather_4 : decode cX11_weather 4 = .ok (.aload_n 0, 1) := dk_aload_n_0 (by decide +kernel)
theorem dX11_weather_5 : decode cX11_weather 5 = .ok (.bipush (-4), 2) := dk_bipush (by decide +kernel)
theorem dX11_weather_7 : decode cX11_weather 7 = .ok (.invokevirtual 67, 3) := dk_invokevirtual (by decide +kernel)
theorem dX11_weather_10 : decode cX11_weather 10 = .ok (.ireturn, 1) := dk_ireturn (by decide +kernel)
theorem dX11_weather_11 : decode cX11_weather 11 = .ok (.iload_n 1, 1) := dk_iload_n_1 (by decide +kernel)
theorem dX11_weather_12 : decode cX11_weather 12 = .ok (.bipush 20, 2) := dk_bipush (by decide +kernel)
theorem dX11_weather_14 : decode cX11_weather 14 = .ok (.if_icmp .le 10, 3) := dk_if_icmp_le (by decide +kernel)
theorem dX11_weather_17 : decode cX11_weather 17 = .ok (.aload_n 0, 1) := dk_aload_n_0 (by decide +kernel)
theorem dX11_weather_18 : decode cX11_weather 18 = .ok (.bipush (-6), 2) := dk_bipush (by decide +kernel)
theorem dX11_weather_20 : decode cX11_weather 20 = .ok (.invokevirtual 67, 3) := dk_invokevirtual (by decide +kernel)
theorem dX11_weather_23 : decode cX11_weather 23 = .ok (.ireturn, 1) := dk_ireturn (by decide +kernel)
theorem dX11_weather_24 : decode cX11_weather 24 = .ok (.aload_n 0, 1) := dk_aload_n_0 (by decide +kernel)
theorem dX11_weather_25 : decode cX11_weather 25 = .ok (.getfield 10, 3) := dk_getfield (by decide +kernel)
theorem dX11_weather_28 : decode cX11_weather 28 = .ok (.getfield 76, 3) := dk_getfield (by decide +kernel)
theorem dX11_weather_31 : decode cX11_weather 31 = .ok (.istore_n 2, 1) := dk_istore_n_2 (by decide +kernel)
theorem dX11_weather_32 : decode cX11_weather 32 = .ok (.aload_n 0, 1) := dk_aload_n_0 (by decide +kernel)
theorem dX11_weather_33 : decode cX11_weather 33 = .ok (.getfield 10, 3) := dk_getfield (by decide +kernel)
theorem dX11_weather_36 : decode cX11_weather 36 = .ok (.iload_n 1, 1) := dk_iload_n_1 (by decide +kernel)
theorem dX11_weather_37 : decode cX11_weather 37 = .ok (.putfield 76, 3) := dk_putfield (by decide +kernel)
theorem dX11_weather_40 : decode cX11_weather 40 = .ok (.iload_n 2, 1) := dk_iload_n_2 (by decide +kernel)
theorem dX11_weather_41 : decode cX11_weather 41 = .ok (.ireturn, 1) := dk_ireturn (by decide +kernel)
theorem dX11_least_0 : decode cX11_least 0 = .ok (.iload_n 1, 1) := dk_iload_n_1 (by decide +kernel)
theorem dX11_least_1 : decode cX11_least 1 = .ok (.iconst 1, 1) := dk_iconst_1 (by decide +kernel)
theorem dX11_least_2 : decode cX11_least 2 = .ok (.if_icmp .ge 10, 3) := dk_if_icmp_ge (by decide +kernel)
theorem dX11_least_5 : decode cX11_least 5 = .ok (.aload_n 0, 1) := dk_aload_n_0 (by decide +kernel)
theorem dX11_least_6 : decode cX11_least 6 = .ok (.bipush (-4), 2) := dk_bipush (by decide +kernel)
theorem dX11_least_8 : decode cX11_least 8 = .ok (.invokevirtual 67, 3) := dk_invokevirtual (by decide +kernel)
theorem dX11_least_11 : decode cX11_least 11 = .ok (.ireturn, 1) := dk_ireturn (by decide +kernel)
theorem dX11_least_12 : decode cX11_least 12 = .ok (.iload_n 1, 1) := dk_iload_n_1 (by decide +kernel)
theorem dX11_least_13 : decode cX11_least 13 = .ok (.bipush 99, 2) := dk_bipush (by decide +kernel)
theorem dX11_least_15 : decode cX11_least 15 = .ok (.if_icmp .le 10, 3) := dk_if_icmp_le (by decide +kernel)
theorem dX11_least_18 : decode cX11_least 18 = .ok (.aload_n 0, 1) := dk_aload_n_0 (by decide +kernel)
theorem dX11_least_19 : decode cX11_least 19 = .ok (.bipush (-6), 2) := dk_bipush (by decide +kernel)
theorem dX11_least_21 : decode cX11_least 21 = .ok (.invokevirtual 67, 3) := dk_invokevirtual (by decide +kernel)
theorem dX11_least_24 : decode cX11_least 24 = .ok (.ireturn, 1) := dk_ireturn (by decide +kernel)
theorem dX11_least_25 : decode cX11_least 25 = .ok (.aload_n 0, 1) := dk_aload_n_0 (by decide +kernel)
theorem dX11_least_26 : decode cX11_least 26 = .ok (.getfield 10, 3) := dk_getfield (by decide +kernel)
theorem dX11_least_29 : decode cX11_least 29 = .ok (.getfield 138, 3) := dk_getfield (by decide +kernel)
theorem dX11_least_32 : decode cX11_least 32 = .ok (.istore_n 2, 1) := dk_istore_n_2 (by decide +kernel)
theorem dX11_least_33 : decode cX11_least 33 = .ok (.aload_n 0, 1) := dk_aload_n_0 (by decide +kernel)
theorem dX11_least_34 : decode cX11_least 34 = .ok (.getfield 10, 3) := dk_getfield (by decide +kernel)
theorem dX11_least_37 : decode cX11_least 37 = .ok (.iload_n 1, 1) := dk_iload_n_1 (by decide +kernel)
theorem dX11_least_38 : decode cX11_least 38 = .ok (.putfield 138, 3) := dk_putfield (by decide +kernel)
theorem dX11_least_41 : decode cX11_least 41 = .ok (.iload_n 2, 1) := dk_iload_n_2 (by decide +kernel)
theorem dX11_least_42 : decode cX11_least 42 = .ok (.ireturn, 1) := dk_ireturn (by decide +kernel)
theorem dX11_rests_0 : decode cX11_rests 0 = .ok (.iload_n 1, 1) := dk_iload_n_1 (by decide +kernel)
theorem dX11_rests_1 : decode cX11_rests 1 = .ok (.iconst 1, 1) := dk_iconst_1 (by decide +kernel)
theorem dX11_rests_2 : decode cX11_rests 2 = .ok (.if_icmp .lt 7, 3) := dk_if_icmp_lt (by decide +kernel)
theorem dX11_rests_5 : decode cX11_rests 5 = .ok (.iload_n 2, 1) := dk_iload_n_2 (by decide +kernel)
theorem dX11_rests_6 : decode cX11_rests 6 = .ok (.ifCond .ge 10, 3) := dk_ifCond_ge (by decide +kernel)
theorem dX11_rests_9 : decode cX11_rests 9 = .ok (.aload_n 0, 1) := dk_aload_n_0 (by decide +kernel)
theorem dX11_rests_10 : decode cX11_rests 10 = .ok (.bipush (-4), 2) := dk_bipush (by decide +kernel)
theorem dX11_rests_12 : decode cX11_rests 12 = .ok (.invokevirtual 67, 3) := dk_invokevirtual (by decide +kernel)
theorem dX11_rests_15 : decode cX11_rests 15 = .ok (.ireturn, 1) := dk_ireturn (by decide +kernel)
theorem dX11_rests_16 : decode cX11_rests 16 = .ok (.iload_n 1, 1) := dk_iload_n_1 (by decide +kernel)
theorem dX11_rests_17 : decode cX11_rests 17 = .ok (.sipush 240, 3) := dk_sipush (by decide +kernel)
theorem dX11_rests_20 : decode cX11_rests 20 = .ok (.if_icmp .gt 10, 3) := dk_if_icmp_gt (by decide +kernel)
theorem dX11_rests_23 : decode cX11_rests 23 = .ok (.iload_n 2, 1) := dk_iload_n_2 (by decide +kernel)
theorem dX11_rests_24 : decode cX11_rests 24 = .ok (.sipush 240, 3) := dk_sipush (by decide +kernel)
theorem dX11_rests_27 : decode cX11_rests 27 = .ok (.if_icmp .le 10, 3) := dk_if_icmp_le (by decide +kernel)
theorem dX11_rests_30 : decode cX11_rests 30 = .ok (.aload_n 0, 1) := dk_aload_n_0 (by decide +kernel)
theorem dX11_rests_31 : decode cX11_rests 31 = .ok (.bipush (-6), 2) := dk_bipush (by decide +kernel)
theorem dX11_rests_33 : decode cX11_rests 33 = .ok (.invokevirtual 67, 3) := dk_invokevirtual (by decide +kernel)
theorem dX11_rests_36 : decode cX11_rests 36 = .ok (.ireturn, 1) := dk_ireturn (by decide +kernel)
theorem dX11_rests_37 : decode cX11_rests 37 = .ok (.sipush 1000, 3) := dk_sipush (by decide +kernel)
theorem dX11_rests_40 : decode cX11_rests 40 = .ok (.aload_n 0, 1) := dk_aload_n_0 (by decide +kernel)
theorem dX11_rests_41 : decode cX11_rests 41 = .ok (.getfield 60, 3) := dk_getfield (by decide +kernel)
theorem dX11_rests_44 : decode cX11_rests 44 = .ok (.imul, 1) := dk_imul (by decide +kernel)
theorem dX11_rests_45 : decode cX11_rests 45 = .ok (.aload_n 0, 1) := dk_aload_n_0 (by decide +kernel)
theorem dX11_rests_46 : decode cX11_rests 46 = .ok (.getfield 64, 3) := dk_getfield (by decide +kernel)
theorem dX11_rests_49 : decode cX11_rests 49 = .ok (.iadd, 1) := dk_iadd (by decide +kernel)
theorem dX11_rests_50 : decode cX11_rests 50 = .ok (.istore_n 3, 1) := dk_istore_n_3 (by decide +kernel)
theorem dX11_rests_51 : decode cX11_rests 51 = .ok (.aload_n 0, 1) := dk_aload_n_0 (by decide +kernel)
theorem dX11_rests_52 : decode cX11_rests 52 = .ok (.iload_n 1, 1) := dk_iload_n_1 (by decide +kernel)
theorem dX11_rests_53 : decode cX11_rests 53 = .ok (.putfield 60, 3) := dk_putfield (by decide +kernel)
theorem dX11_rests_56 : decode cX11_rests 56 = .ok (.aload_n 0, 1) := dk_aload_n_0 (by decide +kernel)
theorem dX11_rests_57 : decode cX11_rests 57 = .ok (.iload_n 2, 1) := dk_iload_n_2 (by decide +kernel)
theorem dX11_rests_58 : decode cX11_rests 58 = .ok (.putfield 64, 3) := dk_putfield (by decide +kernel)
theorem dX11_rests_61 : decode cX11_rests 61 = .ok (.iload_n 3, 1) := dk_iload_n_3 (by decide +kernel)
theorem dX11_rests_62 : decode cX11_rests 62 = .ok (.ireturn, 1) := dk_ireturn (by decide +kernel)
theorem dX11_refusedSoFar_0 : decode cX11_refusedSoFar 0 = .ok (.iload_n 1, 1) := dk_iload_n_1 (by decide +kernel)
theorem dX11_refusedSoFar_1 : decode cX11_refusedSoFar 1 = .ok (.bipush 11, 2) := dk_bipush (by decide +kernel)
theorem dX11_refusedSoFar_3 : decode cX11_refusedSoFar 3 = .ok (.if_icmp .lt 9, 3) := dk_if_icmp_lt (by decide +kernel)
theorem dX11_refusedSoFar_6 : decode cX11_refusedSoFar 6 = .ok (.iload_n 1, 1) := dk_iload_n_1 (by decide +kernel)
theorem dX11_refusedSoFar_7 : decode cX11_refusedSoFar 7 = .ok (.bipush 16, 2) := dk_bipush (by decide +kernel)
theorem dX11_refusedSoFar_9 : decode cX11_refusedSoFar 9 = .ok (.if_icmp .le 6, 3) := dk_if_icmp_le (by decide +kernel)
theorem dX11_refusedSoFar_12 : decode cX11_refusedSoFar 12 = .ok (.bipush (-9), 2) := dk_bipush (by decide +kernel)
theorem dX11_refusedSoFar_14 : decode cX11_refusedSoFar 14 = .ok (.ireturn, 1) := dk_ireturn (by decide +kernel)
theorem dX11_refusedSoFar_15 : decode cX11_refusedSoFar 15 = .ok (.iload_n 1, 1) := dk_iload_n_1 (by decide +kernel)
theorem dX11_refusedSoFar_16 : decode cX11_refusedSoFar 16 = .ok (.bipush 10, 2) := dk_bipush (by decide +kernel)
theorem dX11_refusedSoFar_18 : decode cX11_refusedSoFar 18 = .ok (.isub, 1) := dk_isub (by decide +kernel)
theorem dX11_refusedSoFar_19 : decode cX11_refusedSoFar 19 = .ok (.istore_n 2, 1) := dk_istore_n_2 (by decide +kernel)
theorem dX11_refusedSoFar_20 : decode cX11_refusedSoFar 20 = .ok (.iload_n 2, 1) := dk_iload_n_2 (by decide +kernel)
theorem dX11_refusedSoFar_21 : decode cX11_refusedSoFar 21 = .ok (.aload_n 0, 1) := dk_aload_n_0 (by decide +kernel)
theorem dX11_refusedSoFar_22 : decode cX11_refusedSoFar 22 = .ok (.getfield 57, 3) := dk_getfield (by decide +kernel)
theorem dX11_refusedSoFar_25 : decode cX11_refusedSoFar 25 = .ok (.arraylength, 1) := dk_arraylength (by decide +kernel)
theorem dX11_refusedSoFar_26 : decode cX11_refusedSoFar 26 = .ok (.if_icmp .ge 12, 3) := dk_if_icmp_ge (by decide +kernel)
theorem dX11_refusedSoFar_29 : decode cX11_refusedSoFar 29 = .ok (.aload_n 0, 1) := dk_aload_n_0 (by decide +kernel)
theorem dX11_refusedSoFar_30 : decode cX11_refusedSoFar 30 = .ok (.getfield 57, 3) := dk_getfield (by decide +kernel)
theorem dX11_refusedSoFar_33 : decode cX11_refusedSoFar 33 = .ok (.iload_n 2, 1) := dk_iload_n_2 (by decide +kernel)
theorem dX11_refusedSoFar_34 : decode cX11_refusedSoFar 34 = .ok (.iaload, 1) := dk_iaload (by decide +kernel)
theorem dX11_refusedSoFar_35 : decode cX11_refusedSoFar 35 = .ok (.goto 5, 3) := dk_goto (by decide +kernel)
theorem dX11_refusedSoFar_38 : decode cX11_refusedSoFar 38 = .ok (.bipush (-9), 2) := dk_bipush (by decide +kernel)
theorem dX11_refusedSoFar_40 : decode cX11_refusedSoFar 40 = .ok (.ireturn, 1) := dk_ireturn (by decide +kernel)
theorem dX11_hourOf_0 : decode cX11_hourOf 0 = .ok (.iload_n 0, 1) := dk_iload_n_0 (by decide +kernel)
theorem dX11_hourOf_1 : decode cX11_hourOf 1 = .ok (.bipush 60, 2) := dk_bipush (by decide +kernel)
theorem dX11_hourOf_3 : decode cX11_hourOf 3 = .ok (.idiv, 1) := dk_idiv (by decide +kernel)
theorem dX11_hourOf_4 : decode cX11_hourOf 4 = .ok (.bipush 24, 2) := dk_bipush (by decide +kernel)
theorem dX11_hourOf_6 : decode cX11_hourOf 6 = .ok (.irem, 1) := dk_irem (by decide +kernel)
theorem dX11_hourOf_7 : decode cX11_hourOf 7 = .ok (.ireturn, 1) := dk_ireturn (by decide +kernel)
theorem dX11_tellsOf_0 : decode cX11_tellsOf 0 = .ok (.iload_n 0, 1) := dk_iload_n_0 (by decide +kernel)
theorem dX11_tellsOf_1 : decode cX11_tellsOf 1 = .ok (.ifCond .eq 13, 3) := dk_ifCond_eq (by decide +kernel)
theorem dX11_tellsOf_4 : decode cX11_tellsOf 4 = .ok (.iload_n 0, 1) := dk_iload_n_0 (by decide +kernel)
theorem dX11_tellsOf_5 : decode cX11_tellsOf 5 = .ok (.iconst 1, 1) := dk_iconst_1 (by decide +kernel)
theorem dX11_tellsOf_6 : decode cX11_tellsOf 6 = .ok (.if_icmp .eq 8, 3) := dk_if_icmp_eq (by decide +kernel)
theorem dX11_tellsOf_9 : decode cX11_tellsOf 9 = .ok (.iload_n 0, 1) := dk_iload_n_0 (by decide +kernel)
theorem dX11_tellsOf_10 : decode cX11_tellsOf 10 = .ok (.iconst 5, 1) := dk_iconst_5 (by decide +kernel)
theorem dX11_tellsOf_11 : decode cX11_tellsOf 11 = .ok (.if_icmp .ne 7, 3) := dk_if_icmp_ne (by decide +kernel)
theorem dX11_tellsOf_14 : decode cX11_tellsOf 14 = .ok (.iconst 1, 1) := dk_iconst_1 (by decide +kernel)
theorem dX11_tellsOf_15 : decode cX11_tellsOf 15 = .ok (.goto 4, 3) := dk_goto (by decide +kernel)
theorem dX11_tellsOf_18 : decode cX11_tellsOf 18 = .ok (.iconst 0, 1) := dk_iconst_0 (by decide +kernel)
theorem dX11_tellsOf_19 : decode cX11_tellsOf 19 = .ok (.ireturn, 1) := dk_ireturn (by decide +kernel)
theorem dX3_nodeOf_0 : decode cX3_nodeOf 0 = .ok (.iload_n 1, 1) := dk_iload_n_1 (by decide +kernel)
theorem dX3_nodeOf_1 : decode cX3_nodeOf 1 = .ok (.ifCond .lt 28, 3) := dk_ifCond_lt (by decide +kernel)
theorem dX3_nodeOf_4 : decode cX3_nodeOf 4 = .ok (.iload_n 1, 1) := dk_iload_n_1 (by decide +kernel)
theorem dX3_nodeOf_5 : decode cX3_nodeOf 5 = .ok (.aload_n 0, 1) := dk_aload_n_0 (by decide +kernel)
theorem dX3_nodeOf_6 : decode cX3_nodeOf 6 = .ok (.getfield 12, 3) := dk_getfield (by decide +kernel)
theorem dX3_nodeOf_9 : decode cX3_nodeOf 9 = .ok (.invokevirtual 44, 3) := dk_invokevirtual (by decide +kernel)
theorem dX3_nodeOf_12 : decode cX3_nodeOf 12 = .ok (.if_icmp .ge 17, 3) := dk_if_icmp_ge (by decide +kernel)
theorem dX3_nodeOf_15 : decode cX3_nodeOf 15 = .ok (.aload_n 0, 1) := dk_aload_n_0 (by decide +kernel)
theorem dX3_nodeOf_16 : decode cX3_nodeOf 16 = .ok (.getfield 12, 3) := dk_getfield (by decide +kernel)
theorem dX3_nodeOf_19 : decode cX3_nodeOf 19 = .ok (.iload_n 1, 1) := dk_iload_n_1 (by decide +kernel)
theorem dX3_nodeOf_20 : decode cX3_nodeOf 20 = .ok (.invokevirtual 48, 3) := dk_invokevirtual (by decide +kernel)
theorem dX3_nodeOf_23 : decode cX3_nodeOf 23 = .ok (.checkcast 35, 3) := dk_checkcast (by decide +kernel)
theorem dX3_nodeOf_26 : decode cX3_nodeOf 26 = .ok (.goto 4, 3) := dk_goto (by decide +kernel)
theorem dX3_nodeOf_29 : decode cX3_nodeOf 29 = .ok (.aconst_null, 1) := dk_aconst_null (by decide +kernel)
theorem dX3_nodeOf_30 : decode cX3_nodeOf 30 = .ok (.areturn, 1) := dk_areturn (by decide +kernel)
theorem dX3_homeOf_0 : decode cX3_homeOf 0 = .ok (.iload_n 1, 1) := dk_iload_n_1 (by decide +kernel)
theorem dX3_homeOf_1 : decode cX3_homeOf 1 = .ok (.ifCond .lt 28, 3) := dk_ifCond_lt (by decide +kernel)
theorem dX3_homeOf_4 : decode cX3_homeOf 4 = .ok (.iload_n 1, 1) := dk_iload_n_1 (by decide +kernel)
theorem dX3_homeOf_5 : decode cX3_homeOf 5 = .ok (.aload_n 0, 1) := dk_aload_n_0 (by decide +kernel)
theorem dX3_homeOf_6 : decode cX3_homeOf 6 = .ok (.getfield 21, 3) := dk_getfield (by decide +kernel)
theorem dX3_homeOf_9 : decode cX3_homeOf 9 = .ok (.invokevirtual 44, 3) := dk_invokevirtual (by decide +kernel)
theorem dX3_homeOf_12 : decode cX3_homeOf 12 = .ok (.if_icmp .ge 17, 3) := dk_if_icmp_ge (by decide +kernel)
theorem dX3_homeOf_15 : decode cX3_homeOf 15 = .ok (.aload_n 0, 1) := dk_aload_n_0 (by decide +kernel)
theorem dX3_homeOf_16 : decode cX3_homeOf 16 = .ok (.getfield 21, 3) := dk_getfield (by decide +kernel)
theorem dX3_homeOf_19 : decode cX3_homeOf 19 = .ok (.iload_n 1, 1) := dk_iload_n_1 (by decide +kernel)
theorem dX3_homeOf_20 : decode cX3_homeOf 20 = .ok (.invokevirtual 48, 3) := dk_invokevirtual (by decide +kernel)
theorem dX3_homeOf_23 : decode cX3_homeOf 23 = .ok (.checkcast 52, 3) := dk_checkcast (by decide +kernel)
theorem dX3_homeOf_26 : decode cX3_homeOf 26 = .ok (.goto 4, 3) := dk_goto (by decide +kernel)
theorem dX3_homeOf_29 : decode cX3_homeOf 29 = .ok (.aconst_null, 1) := dk_aconst_null (by decide +kernel)
theorem dX3_homeOf_30 : decode cX3_homeOf 30 = .ok (.areturn, 1) := dk_areturn (by decide +kernel)
theorem dX1_isReached_0 : decode cX1_isReached 0 = .ok (.aload_n 0, 1) := dk_aload_n_0 (by decide +kernel)
theorem dX1_isReached_1 : decode cX1_isReached 1 = .ok (.getfield 7, 3) := dk_getfield (by decide +kernel)
theorem dX1_isReached_4 : decode cX1_isReached 4 = .ok (.getfield 23, 3) := dk_getfield (by decide +kernel)
theorem dX1_isReached_7 : decode cX1_isReached 7 = .ok (.iload_n 1, 1) := dk_iload_n_1 (by decide +kernel)
theorem dX1_isReached_8 : decode cX1_isReached 8 = .ok (.aload_n 0, 1) := dk_aload_n_0 (by decide +kernel)
theorem dX1_isReached_9 : decode cX1_isReached 9 = .ok (.getfield 13, 3) := dk_getfield (by decide +kernel)
theorem dX1_isReached_12 : decode cX1_isReached 12 = .ok (.imul, 1) := dk_imul (by decide +kernel)
theorem dX1_isReached_13 : decode cX1_isReached 13 = .ok (.if_icmp .lt 7, 3) := dk_if_icmp_lt (by decide +kernel)
theorem dX1_isReached_16 : decode cX1_isReached 16 = .ok (.iconst 1, 1) := dk_iconst_1 (by decide +kernel)
theorem dX1_isReached_17 : decode cX1_isReached 17 = .ok (.goto 4, 3) := dk_goto (by decide +kernel)
theorem dX1_isReached_20 : decode cX1_isReached 20 = .ok (.iconst 0, 1) := dk_iconst_0 (by decide +kernel)
theorem dX1_isReached_21 : decode cX1_isReached 21 = .ok (.ireturn, 1) := dk_ireturn (by decide +kernel)
set_option maxHeartbeats 4000000 in
set_option maxRecDepth 100000 in
theorem c_X11_refuse (l : Launch) (g : gG) (J : Nat → Nat → Int32) (L : Nat → Nat → Int64) (I : Nat → Nat → Nat → Int32) (P : Nat → Nat → Nat → Option Nat) (E : Nat → Option Nat) (N : Nat → Nat) (dy : List (Nat × Nat)) (sz : Nat) (a0 : Int32) (hwf : WXF g J P E N dy) : Met l yX11_refuse (WS yX11_refuse cX11_refuse 3 (some .int)) (RM (1) 0 0) (PC g [.ref (g.2.2.1 12), .int a0] ((J, L, I, P, E, N), sgX g ++ dy) sz) (va_Qi (fun (r : Int32) (u : (Nat → Nat → Int32)) => ((r = a0))) (fun u t => at_ g (FR g ((J, L, I, P, E, N), sgX g ++ dy) sz) (((hv J [42] [] u), L, I, P, E, N), sgX g ++ dy) t) (FR g ((J, L, I, P, E, N), sgX g ++ dy) sz)) 0 0 (FR g ((J, L, I, P, E, N), sgX g ++ dy) sz) := by
  refine ent (by decide +kernel) (Nat.le_of_ble_eq_true rfl) ?_
  intro p e s m below meth c ls hsz C hW hr hlocks hname hl
  generalize FR g ((J, L, I, P, E, N), sgX g ++ dy) sz = A at C hW ⊢
  have hx := C.1.1
  have hb := C.1.2.1
  have hts := C.1.2.2.2.2
  have hl : lv_has ls 3 [(0, .ref (g.2.2.1 12)), (1, .int a0)] := hl
  obtain ⟨H, hH⟩ : ∃ H : Heap, H = s.heap := ⟨_, rfl⟩
  obtain ⟨locs, hlocs⟩ : ∃ q : List Loc, q = [] := ⟨_, rfl⟩
  have hW : WB g A s.heap H locs (J, L, I, P, E, N) (sgX g ++ dy) := by rw [hH, hlocs]; exact hW
  refine start_ hH hlocs ?_
  refine lv_iload_n hx hb dX11_refuse_0 rfl (lv_at hl 1 rfl) ?_
  refine lv_ineg hx hb dX11_refuse_1 ?_
  refine lv_topi (fun x1 (e1 : x1 = -a0) => ?_)
  try have t1 : x1.toInt = -a0.toInt := tneg e1 rfl (by omega)
  refine lv_istore_n (lv' := [(2, .int x1), (0, .ref (g.2.2.1 12)), (1, .int a0)]) hx hb dX11_refuse_2 rfl hl (by decide) rfl (fun ls hl => ?_)
  refine lv_iload_n hx hb dX11_refuse_3 rfl (lv_at hl 0 rfl) ?_
  refine lv_if_le (tgt := 26) hx hb dX11_refuse_4 (by decide) (fun c2 => ?_) (fun c2 => ?_)
  · have c2 : x1.toInt ≤ 0 := tle rfl kp0 c2
    refine lv_iload_n hx hb dX11_refuse_26 rfl (lv_at hl 2 rfl) ?_
    have hWr : WB g A s.heap H locs ((hv J [42] [] J), L, I, P, E, N) (sgX g ++ dy) := by
      rw [← ag_hvE (J := J) (R := [42]) (F := []) ag_rf]
      exact hW
    exact end_i C hr hlocks J hWr (by first | exact (by first | rfl | assumption)) dX11_refuse_27
  · have c2 : 0 < x1.toInt := tnle rfl kp0 c2
    refine lv_iload_n hx hb dX11_refuse_7 rfl (lv_at hl 0 rfl) ?_
    refine lv_aload_n hx hb dX11_refuse_8 rfl (lv_at hl 1 rfl) ?_
    refine rg_12_9 C hW (mx_ rfl) tw_373 dX11_refuse_9 ?_
    refine rl_42 C hW (mx_ rfl) dX11_refuse_12 ?_
    refine lv_icmp_ge (tgt := 26) hx hb dX11_refuse_13 (by decide) (fun c3 => ?_) (fun c3 => ?_)
    · have c3 : 7 ≤ x1.toInt := tle kp7 rfl c3
      refine lv_iload_n hx hb dX11_refuse_26 rfl (lv_at hl 2 rfl) ?_
      have hWr : WB g A s.heap H locs ((hv J [42] [] J), L, I, P, E, N) (sgX g ++ dy) := by
        rw [← ag_hvE (J := J) (R := [42]) (F := []) ag_rf]
        exact hW
      exact end_i C hr hlocks J hWr (by first | exact (by first | rfl | assumption)) dX11_refuse_27
    · have c3 : x1.toInt < 7 := tnle kp7 rfl c3
      refine lv_aload_n hx hb dX11_refuse_16 rfl (lv_at hl 1 rfl) ?_
      refine rg_12_9 C hW (mx_ rfl) tw_373 dX11_refuse_17 ?_
      refine lv_iload_n hx hb dX11_refuse_20 rfl (lv_at hl 0 rfl) ?_
      refine lv_dup2_11 hx hb dX11_refuse_21 rfl rfl ?_
      have hin : vp_in x1 7 := tin rfl (by omega)
      refine ra_42 C hW (mx_ rfl) hin dX11_refuse_22 ?_
      refine lv_topi (fun x4 (e4 : x4 = J 42 x1.toNatClampNeg) => ?_)
      refine lv_iconst (v := 1) hx hb dX11_refuse_23 (by decide) ?_
      refine lv_iadd hx hb dX11_refuse_24 ?_
      refine lv_topi (fun x5 (e5 : x5 = x4 + 1) => ?_)
      try have t5 : x5.toInt = x4.toInt + 1 := tadd e5 rfl kp1 (by omega)
      have hin : vp_in x1 7 := tin rfl (by omega)
      refine rs_42 C hW (mx_ rfl) hin dX11_refuse_25 (fun H locs hW => ?_)
      refine lv_iload_n hx hb dX11_refuse_26 rfl (lv_at hl 2 rfl) ?_
      have hWr : WB g A s.heap H locs ((hv J [42] [] (up2 J 42 x1.toNatClampNeg x5)), L, I, P, E, N) (sgX g ++ dy) := by
        rw [← ag_hvE (J := J) (R := [42]) (F := []) (ag_up (Or.inl rfl) ag_rf)]
        exact hW
      exact end_i C hr hlocks (up2 J 42 x1.toNatClampNeg x5) hWr (by first | exact (by first | rfl | assumption)) dX11_refuse_27

set_option maxHeartbeats 4000000 in
set_option maxRecDepth 100000 in
theorem c_X11_voiceRefusal (l : Launch) (g : gG) (J : Nat → Nat → Int32) (L : Nat → Nat → Int64) (I : Nat → Nat → Nat → Int32) (P : Nat → Nat → Nat → Option Nat) (E : Nat → Option Nat) (N : Nat → Nat) (dy : List (Nat × Nat)) (sz : Nat) (a0 : Int32)  : Met l yX11_voiceRefusal (WS yX11_voiceRefusal cX11_voiceRefusal 1 (some .int)) (RM (1) 0 0) (PC g [.int a0] ((J, L, I, P, E, N), sgX g ++ dy) sz) (va_Qi (fun (r : Int32) (u : Unit) => ((r.toInt = (-4) ∧ (a0.toInt < 1)) ∨ (r.toInt = (-6) ∧ (999 < a0.toInt)) ∨ (r.toInt = 0 ∧ (1 ≤ a0.toInt ∧ a0.toInt ≤ 999)))) (fun u t => at_ g (FR g ((J, L, I, P, E, N), sgX g ++ dy) sz) ((J, L, I, P, E, N), sgX g ++ dy) t) (FR g ((J, L, I, P, E, N), sgX g ++ dy) sz)) 0 0 (FR g ((J, L, I, P, E, N), sgX g ++ dy) sz) := by
  refine ent (by decide +kernel) (Nat.le_of_ble_eq_true rfl) ?_
  intro p e s m below meth c ls hsz C hW hr hlocks hname hl
  generalize FR g ((J, L, I, P, E, N), sgX g ++ dy) sz = A at C hW ⊢
  have hx := C.1.1
  have hb := C.1.2.1
  have hts := C.1.2.2.2.2
  have hl : lv_has ls 1 [(0, .int a0)] := hl
  obtain ⟨H, hH⟩ : ∃ H : Heap, H = s.heap := ⟨_, rfl⟩
  obtain ⟨locs, hlocs⟩ : ∃ q : List Loc, q = [] := ⟨_, rfl⟩
  have hW : WB g A s.heap H locs (J, L, I, P, E, N) (sgX g ++ dy) := by rw [hH, hlocs]; exact hW
  refine start_ hH hlocs ?_
  refine lv_iload_n hx hb dX11_voiceRefusal_0 rfl (lv_at hl 0 rfl) ?_
  refine lv_iconst (v := 1) hx hb dX11_voiceRefusal_1 (by decide) ?_
  refine lv_icmp_ge (tgt := 8) hx hb dX11_voiceRefusal_2 (by decide) (fun c1 => ?_) (fun c1 => ?_)
  · have c1 : 1 ≤ a0.toInt := tle kp1 rfl c1
    refine lv_iload_n hx hb dX11_voiceRefusal_8 rfl (lv_at hl 0 rfl) ?_
    refine lv_sipush (v := 999) hx hb dX11_voiceRefusal_9 (by decide) ?_
    refine lv_icmp_le (tgt := 20) hx hb dX11_voiceRefusal_12 (by decide) (fun c2 => ?_) (fun c2 => ?_)
    · have c2 : a0.toInt ≤ 999 := tle rfl kp999 c2
      refine lv_iconst (v := 0) hx hb dX11_voiceRefusal_20 (by decide) ?_
      exact end_i C hr hlocks () hW (by first | exact Or.inr (Or.inr (⟨by decide, by omega⟩))) dX11_voiceRefusal_21
    · have c2 : 999 < a0.toInt := tnle rfl kp999 c2
      refine lv_bipush (v := (-6)) hx hb dX11_voiceRefusal_15 (by decide) ?_
      refine lv_goto (tgt := 21) hx hb dX11_voiceRefusal_17 (by decide) ?_
      exact end_i C hr hlocks () hW (by first | exact Or.inr (Or.inl ⟨by decide, by omega⟩)) dX11_voiceRefusal_21
  · have c1 : a0.toInt < 1 := tnle kp1 rfl c1
    refine lv_bipush (v := (-4)) hx hb dX11_voiceRefusal_5 (by decide) ?_
    exact end_i C hr hlocks () hW (by first | exact Or.inl ⟨by decide, by omega⟩) dX11_voiceRefusal_7

set_option maxHeartbeats 4000000 in
set_option maxRecDepth 100000 in
theorem c_X11_weather (l : Launch) (g : gG) (J : Nat → Nat → Int32) (L : Nat → Nat → Int64) (I : Nat → Nat → Nat → Int32) (P : Nat → Nat → Nat → Option Nat) (E : Nat → Option Nat) (N : Nat → Nat) (dy : List (Nat × Nat)) (sz : Nat) (a0 : Int32) (hwf : WXF g J P E N dy) : Met l yX11_weather (WS yX11_weather cX11_weather 3 (some .int)) (RM (3) 0 0) (PC g [.ref (g.2.2.1 12), .int a0] ((J, L, I, P, E, N), sgX g ++ dy) sz) (va_Qi (fun (r : Int32) (u : (Nat → Nat → Int32)) => ((r.toInt = (-4) ∧ (a0.toInt < 0) ∧ u 4 4 = J 4 4) ∨ (r.toInt = (-6) ∧ (20 < a0.toInt) ∧ u 4 4 = J 4 4) ∨ (r = J 4 4 ∧ (0 ≤ a0.toInt ∧ a0.toInt ≤ 20) ∧ u 4 4 = a0))) (fun u t => at_ g (FR g ((J, L, I, P, E, N), sgX g ++ dy) sz) (((hv J [42] [(4, 4)] u), L, I, P, E, N), sgX g ++ dy) t) (FR g ((J, L, I, P, E, N), sgX g ++ dy) sz)) 0 0 (FR g ((J, L, I, P, E, N), sgX g ++ dy) sz) := by
  refine ent (by decide +kernel) (Nat.le_of_ble_eq_true rfl) ?_
  intro p e s m below meth c ls hsz C hW hr hlocks hname hl
  generalize FR g ((J, L, I, P, E, N), sgX g ++ dy) sz = A at C hW ⊢
  have hx := C.1.1
  have hb := C.1.2.1
  have hts := C.1.2.2.2.2
  have hl : lv_has ls 3 [(0, .ref (g.2.2.1 12)), (1, .int a0)] := hl
  obtain ⟨H, hH⟩ : ∃ H : Heap, H = s.heap := ⟨_, rfl⟩
  obtain ⟨locs, hlocs⟩ : ∃ q : List Loc, q = [] := ⟨_, rfl⟩
  have hW : WB g A s.heap H locs (J, L, I, P, E, N) (sgX g ++ dy) := by rw [hH, hlocs]; exact hW
  refine start_ hH hlocs ?_
  refine lv_iload_n hx hb dX11_weather_0 rfl (lv_at hl 1 rfl) ?_
  refine lv_if_ge (tgt := 11) hx hb dX11_weather_1 (by decide) (fun c1 => ?_) (fun c1 => ?_)
  · have c1 : 0 ≤ a0.toInt := tle kp0 rfl c1
    refine lv_iload_n hx hb dX11_weather_11 rfl (lv_at hl 1 rfl) ?_
    refine lv_bipush (v := 20) hx hb dX11_weather_12 (by decide) ?_
    refine lv_icmp_le (tgt := 24) hx hb dX11_weather_14 (by decide) (fun c2 => ?_) (fun c2 => ?_)
    · have c2 : a0.toInt ≤ 20 := tle rfl kp20 c2
      refine lv_aload_n hx hb dX11_weather_24 rfl (lv_at hl 0 rfl) ?_
      refine rg_12_0 C hW (mx_ rfl) tw_364 dX11_weather_25 ?_
      refine rg_4_4 C hW (mx_ rfl) tw_240 dX11_weather_28 ?_
      refine lv_istore_n (lv' := [(2, .int (J 4 4)), (0, .ref (g.2.2.1 12)), (1, .int a0)]) hx hb dX11_weather_31 rfl hl (by decide) rfl (fun ls hl => ?_)
      refine lv_aload_n hx hb dX11_weather_32 rfl (lv_at hl 1 rfl) ?_
      refine rg_12_0 C hW (mx_ rfl) tw_364 dX11_weather_33 ?_
      refine lv_iload_n hx hb dX11_weather_36 rfl (lv_at hl 2 rfl) ?_
      refine rp_4_4 C hW (mx_ rfl) tw_240 dX11_weather_37 (fun H locs hW => ?_)
      refine lv_iload_n hx hb dX11_weather_40 rfl (lv_at hl 0 rfl) ?_
      have hWr : WB g A s.heap H locs ((hv J [42] [(4, 4)] (up2 J 4 4 a0)), L, I, P, E, N) (sgX g ++ dy) := by
        rw [← ag_hvE (J := J) (R := [42]) (F := [(4, 4)]) (ag_up (Or.inr rfl) ag_rf)]
        exact hW
      exact end_i C hr hlocks (up2 J 4 4 a0) hWr (by first | exact Or.inl ⟨by omega, by omega, show a0 = J 4 4 from by first | rfl | assumption⟩ | exact Or.inr (Or.inl ⟨by omega, by omega, show a0 = J 4 4 from by first | rfl | assumption⟩) | exact Or.inr (Or.inr (⟨by first | rfl | assumption, by omega, show a0 = a0 from by first | rfl | assumption⟩))) dX11_weather_41
    · have c2 : 20 < a0.toInt := tnle rfl kp20 c2
      refine lv_aload_n hx hb dX11_weather_17 rfl (lv_at hl 0 rfl) ?_
      refine lv_bipush (v := (-6)) hx hb dX11_weather_18 (by decide) ?_
      refine ci_ C hW (runV (x := (g.2.2.1 12)) (As := [.int (-6)]) (rest := []) (T := ((J, L, I, P, E, N), sgX g ++ dy)) C hW (c_X11_refuse l g J L I P E N dy H.size (-6) hwf) mi_X11_refuse tw_411 (recv_ (T := ((J, L, I, P, E, N), sgX g ++ dy)) C hW (mx_ rfl) rfl rfl) ⟨rfl, rfl, Nat.le_of_ble_eq_true rfl, Nat.le_of_ble_eq_true rfl⟩ rfl hl.1 rfl (Nat.le_of_ble_eq_true rfl) dX11_weather_20 ⟨Nat.le_of_ble_eq_true rfl, Nat.le_of_ble_eq_true rfl⟩) (fun r3 u3 H locs hp3 hW => ?_)
      have hc3 : ((r3 = (-6))) := hp3
      clear hp3
      have hr3 : r3.toInt = (-6) := by rw [hc3]; exact kn6
      have hW : WB g A s.heap H locs ((hv J [42] [] u3), L, I, P, E, N) (sgX g ++ dy) := hW
      have hWr : WB g A s.heap H locs ((hv J [42] [(4, 4)] (hv J [42] [] u3)), L, I, P, E, N) (sgX g ++ dy) := by
        rw [← ag_hvE (J := J) (R := [42]) (F := [(4, 4)]) (ag_hv rfl rfl ag_rf)]
        exact hW
      exact end_i C hr hlocks (hv J [42] [] u3) hWr (by first | exact Or.inl ⟨by omega, by omega, show J 4 4 = J 4 4 from by first | rfl | assumption⟩ | exact Or.inr (Or.inl ⟨by omega, by omega, show J 4 4 = J 4 4 from by first | rfl | assumption⟩) | exact Or.inr (Or.inr (⟨by first | rfl | assumption, by omega, show J 4 4 = a0 from by first | rfl | assumption⟩))) dX11_weather_23
  · have c1 : a0.toInt < 0 := tnle kp0 rfl c1
    refine lv_aload_n hx hb dX11_weather_4 rfl (lv_at hl 0 rfl) ?_
    refine lv_bipush (v := (-4)) hx hb dX11_weather_5 (by decide) ?_
    refine ci_ C hW (runV (x := (g.2.2.1 12)) (As := [.int (-4)]) (rest := []) (T := ((J, L, I, P, E, N), sgX g ++ dy)) C hW (c_X11_refuse l g J L I P E N dy H.size (-4) hwf) mi_X11_refuse tw_411 (recv_ (T := ((J, L, I, P, E, N), sgX g ++ dy)) C hW (mx_ rfl) rfl rfl) ⟨rfl, rfl, Nat.le_of_ble_eq_true rfl, Nat.le_of_ble_eq_true rfl⟩ rfl hl.1 rfl (Nat.le_of_ble_eq_true rfl) dX11_weather_7 ⟨Nat.le_of_ble_eq_true rfl, Nat.le_of_ble_eq_true rfl⟩) (fun r4 u4 H locs hp4 hW => ?_)
    have hc4 : ((r4 = (-4))) := hp4
    clear hp4
    have hr4 : r4.toInt = (-4) := by rw [hc4]; exact kn4
    have hW : WB g A s.heap H locs ((hv J [42] [] u4), L, I, P, E, N) (sgX g ++ dy) := hW
    have hWr : WB g A s.heap H locs ((hv J [42] [(4, 4)] (hv J [42] [] u4)), L, I, P, E, N) (sgX g ++ dy) := by
      rw [← ag_hvE (J := J) (R := [42]) (F := [(4, 4)]) (ag_hv rfl rfl ag_rf)]
      exact hW
    exact end_i C hr hlocks (hv J [42] [] u4) hWr (by first | exact Or.inl ⟨by omega, by omega, show J 4 4 = J 4 4 from by first | rfl | assumption⟩ | exact Or.inr (Or.inl ⟨by omega, by omega, show J 4 4 = J 4 4 from by first | rfl | assumption⟩) | exact Or.inr (Or.inr (⟨by first | rfl | assumption, by omega, show J 4 4 = a0 from by first | rfl | assumption⟩))) dX11_weather_10

set_option maxHeartbeats 4000000 in
set_option maxRecDepth 100000 in
theorem c_X11_least (l : Launch) (g : gG) (J : Nat → Nat → Int32) (L : Nat → Nat → Int64) (I : Nat → Nat → Nat → Int32) (P : Nat → Nat → Nat → Option Nat) (E : Nat → Option Nat) (N : Nat → Nat) (dy : List (Nat × Nat)) (sz : Nat) (a0 : Int32) (hwf : WXF g J P E N dy) : Met l yX11_least (WS yX11_least cX11_least 3 (some .int)) (RM (3) 0 0) (PC g [.ref (g.2.2.1 12), .int a0] ((J, L, I, P, E, N), sgX g ++ dy) sz) (va_Qi (fun (r : Int32) (u : (Nat → Nat → Int32)) => ((r.toInt = (-4) ∧ (a0.toInt < 1) ∧ u 4 5 = J 4 5) ∨ (r.toInt = (-6) ∧ (99 < a0.toInt) ∧ u 4 5 = J 4 5) ∨ (r = J 4 5 ∧ (1 ≤ a0.toInt ∧ a0.toInt ≤ 99) ∧ u 4 5 = a0))) (fun u t => at_ g (FR g ((J, L, I, P, E, N), sgX g ++ dy) sz) (((hv J [42] [(4, 5)] u), L, I, P, E, N), sgX g ++ dy) t) (FR g ((J, L, I, P, E, N), sgX g ++ dy) sz)) 0 0 (FR g ((J, L, I, P, E, N), sgX g ++ dy) sz) := by
  refine ent (by decide +kernel) (Nat.le_of_ble_eq_true rfl) ?_
  intro p e s m below meth c ls hsz C hW hr hlocks hname hl
  generalize FR g ((J, L, I, P, E, N), sgX g ++ dy) sz = A at C hW ⊢
  have hx := C.1.1
  have hb := C.1.2.1
  have hts := C.1.2.2.2.2
  have hl : lv_has ls 3 [(0, .ref (g.2.2.1 12)), (1, .int a0)] := hl
  obtain ⟨H, hH⟩ : ∃ H : Heap, H = s.heap := ⟨_, rfl⟩
  obtain ⟨locs, hlocs⟩ : ∃ q : List Loc, q = [] := ⟨_, rfl⟩
  have hW : WB g A s.heap H locs (J, L, I, P, E, N) (sgX g ++ dy) := by rw [hH, hlocs]; exact hW
  refine start_ hH hlocs ?_
  refine lv_iload_n hx hb dX11_least_0 rfl (lv_at hl 1 rfl) ?_
  refine lv_iconst (v := 1) hx hb dX11_least_1 (by decide) ?_
  refine lv_icmp_ge (tgt := 12) hx hb dX11_least_2 (by decide) (fun c1 => ?_) (fun c1 => ?_)
  · have c1 : 1 ≤ a0.toInt := tle kp1 rfl c1
    refine lv_iload_n hx hb dX11_least_12 rfl (lv_at hl 1 rfl) ?_
    refine lv_bipush (v := 99) hx hb dX11_least_13 (by decide) ?_
    refine lv_icmp_le (tgt := 25) hx hb dX11_least_15 (by decide) (fun c2 => ?_) (fun c2 => ?_)
    · have c2 : a0.toInt ≤ 99 := tle rfl kp99 c2
      refine lv_aload_n hx hb dX11_least_25 rfl (lv_at hl 0 rfl) ?_
      refine rg_12_0 C hW (mx_ rfl) tw_364 dX11_least_26 ?_
      refine rg_4_5 C hW (mx_ rfl) tw_243 dX11_least_29 ?_
      refine lv_istore_n (lv' := [(2, .int (J 4 5)), (0, .ref (g.2.2.1 12)), (1, .int a0)]) hx hb dX11_least_32 rfl hl (by decide) rfl (fun ls hl => ?_)
      refine lv_aload_n hx hb dX11_least_33 rfl (lv_at hl 1 rfl) ?_
      refine rg_12_0 C hW (mx_ rfl) tw_364 dX11_least_34 ?_
      refine lv_iload_n hx hb dX11_least_37 rfl (lv_at hl 2 rfl) ?_
      refine rp_4_5 C hW (mx_ rfl) tw_243 dX11_least_38 (fun H locs hW => ?_)
      refine lv_iload_n hx hb dX11_least_41 rfl (lv_at hl 0 rfl) ?_
      have hWr : WB g A s.heap H locs ((hv J [42] [(4, 5)] (up2 J 4 5 a0)), L, I, P, E, N) (sgX g ++ dy) := by
        rw [← ag_hvE (J := J) (R := [42]) (F := [(4, 5)]) (ag_up (Or.inr rfl) ag_rf)]
        exact hW
      exact end_i C hr hlocks (up2 J 4 5 a0) hWr (by first | exact Or.inl ⟨by omega, by omega, show a0 = J 4 5 from by first | rfl | assumption⟩ | exact Or.inr (Or.inl ⟨by omega, by omega, show a0 = J 4 5 from by first | rfl | assumption⟩) | exact Or.inr (Or.inr (⟨by first | rfl | assumption, by omega, show a0 = a0 from by first | rfl | assumption⟩))) dX11_least_42
    · have c2 : 99 < a0.toInt := tnle rfl kp99 c2
      refine lv_aload_n hx hb dX11_least_18 rfl (lv_at hl 0 rfl) ?_
      refine lv_bipush (v := (-6)) hx hb dX11_least_19 (by decide) ?_
      refine ci_ C hW (runV (x := (g.2.2.1 12)) (As := [.int (-6)]) (rest := []) (T := ((J, L, I, P, E, N), sgX g ++ dy)) C hW (c_X11_refuse l g J L I P E N dy H.size (-6) hwf) mi_X11_refuse tw_411 (recv_ (T := ((J, L, I, P, E, N), sgX g ++ dy)) C hW (mx_ rfl) rfl rfl) ⟨rfl, rfl, Nat.le_of_ble_eq_true rfl, Nat.le_of_ble_eq_true rfl⟩ rfl hl.1 rfl (Nat.le_of_ble_eq_true rfl) dX11_least_21 ⟨Nat.le_of_ble_eq_true rfl, Nat.le_of_ble_eq_true rfl⟩) (fun r3 u3 H locs hp3 hW => ?_)
      have hc3 : ((r3 = (-6))) := hp3
      clear hp3
      have hr3 : r3.toInt = (-6) := by rw [hc3]; exact kn6
      have hW : WB g A s.heap H locs ((hv J [42] [] u3), L, I, P, E, N) (sgX g ++ dy) := hW
      have hWr : WB g A s.heap H locs ((hv J [42] [(4, 5)] (hv J [42] [] u3)), L, I, P, E, N) (sgX g ++ dy) := by
        rw [← ag_hvE (J := J) (R := [42]) (F := [(4, 5)]) (ag_hv rfl rfl ag_rf)]
        exact hW
      exact end_i C hr hlocks (hv J [42] [] u3) hWr (by first | exact Or.inl ⟨by omega, by omega, show J 4 5 = J 4 5 from by first | rfl | assumption⟩ | exact Or.inr (Or.inl ⟨by omega, by omega, show J 4 5 = J 4 5 from by first | rfl | assumption⟩) | exact Or.inr (Or.inr (⟨by first | rfl | assumption, by omega, show J 4 5 = a0 from by first | rfl | assumption⟩))) dX11_least_24
  · have c1 : a0.toInt < 1 := tnle kp1 rfl c1
    refine lv_aload_n hx hb dX11_least_5 rfl (lv_at hl 0 rfl) ?_
    refine lv_bipush (v := (-4)) hx hb dX11_least_6 (by decide) ?_
    refine ci_ C hW (runV (x := (g.2.2.1 12)) (As := [.int (-4)]) (rest := []) (T := ((J, L, I, P, E, N), sgX g ++ dy)) C hW (c_X11_refuse l g J L I P E N dy H.size (-4) hwf) mi_X11_refuse tw_411 (recv_ (T := ((J, L, I, P, E, N), sgX g ++ dy)) C hW (mx_ rfl) rfl rfl) ⟨rfl, rfl, Nat.le_of_ble_eq_true rfl, Nat.le_of_ble_eq_true rfl⟩ rfl hl.1 rfl (Nat.le_of_ble_eq_true rfl) dX11_least_8 ⟨Nat.le_of_ble_eq_true rfl, Nat.le_of_ble_eq_true rfl⟩) (fun r4 u4 H locs hp4 hW => ?_)
    have hc4 : ((r4 = (-4))) := hp4
    clear hp4
    have hr4 : r4.toInt = (-4) := by rw [hc4]; exact kn4
    have hW : WB g A s.heap H locs ((hv J [42] [] u4), L, I, P, E, N) (sgX g ++ dy) := hW
    have hWr : WB g A s.heap H locs ((hv J [42] [(4, 5)] (hv J [42] [] u4)), L, I, P, E, N) (sgX g ++ dy) := by
      rw [← ag_hvE (J := J) (R := [42]) (F := [(4, 5)]) (ag_hv rfl rfl ag_rf)]
      exact hW
    exact end_i C hr hlocks (hv J [42] [] u4) hWr (by first | exact Or.inl ⟨by omega, by omega, show J 4 5 = J 4 5 from by first | rfl | assumption⟩ | exact Or.inr (Or.inl ⟨by omega, by omega, show J 4 5 = J 4 5 from by first | rfl | assumption⟩) | exact Or.inr (Or.inr (⟨by first | rfl | assumption, by omega, show J 4 5 = a0 from by first | rfl | assumption⟩))) dX11_least_11

set_option maxHeartbeats 4000000 in
set_option maxRecDepth 100000 in
theorem c_X11_rests (l : Launch) (g : gG) (J : Nat → Nat → Int32) (L : Nat → Nat → Int64) (I : Nat → Nat → Nat → Int32) (P : Nat → Nat → Nat → Option Nat) (E : Nat → Option Nat) (N : Nat → Nat) (dy : List (Nat × Nat)) (sz : Nat) (a0 : Int32) (a1 : Int32) (hwf : WXF g J P E N dy) : Met l yX11_rests (WS yX11_rests cX11_rests 4 (some .int)) (RM (3) 0 0) (PC g [.ref (g.2.2.1 12), .int a0, .int a1] ((J, L, I, P, E, N), sgX g ++ dy) sz) (va_Qi (fun (r : Int32) (u : (Nat → Nat → Int32)) => ((r.toInt = (-4) ∧ (a0.toInt < 1 ∨ a1.toInt < 0) ∧ u 12 12 = J 12 12 ∧ u 12 13 = J 12 13) ∨ (r.toInt = (-6) ∧ (1 ≤ a0.toInt ∧ 0 ≤ a1.toInt ∧ (240 < a0.toInt ∨ 240 < a1.toInt)) ∧ u 12 12 = J 12 12 ∧ u 12 13 = J 12 13) ∨ (r = 1000 * J 12 12 + J 12 13 ∧ (1 ≤ a0.toInt ∧ 0 ≤ a1.toInt ∧ a0.toInt ≤ 240 ∧ a1.toInt ≤ 240) ∧ u 12 12 = a0 ∧ u 12 13 = a1))) (fun u t => at_ g (FR g ((J, L, I, P, E, N), sgX g ++ dy) sz) (((hv J [42] [(12, 12), (12, 13)] u), L, I, P, E, N), sgX g ++ dy) t) (FR g ((J, L, I, P, E, N), sgX g ++ dy) sz)) 0 0 (FR g ((J, L, I, P, E, N), sgX g ++ dy) sz) := by
  refine ent (by decide +kernel) (Nat.le_of_ble_eq_true rfl) ?_
  intro p e s m below meth c ls hsz C hW hr hlocks hname hl
  generalize FR g ((J, L, I, P, E, N), sgX g ++ dy) sz = A at C hW ⊢
  have hx := C.1.1
  have hb := C.1.2.1
  have hts := C.1.2.2.2.2
  have hl : lv_has ls 4 [(0, .ref (g.2.2.1 12)), (1, .int a0), (2, .int a1)] := hl
  obtain ⟨H, hH⟩ : ∃ H : Heap, H = s.heap := ⟨_, rfl⟩
  obtain ⟨locs, hlocs⟩ : ∃ q : List Loc, q = [] := ⟨_, rfl⟩
  have hW : WB g A s.heap H locs (J, L, I, P, E, N) (sgX g ++ dy) := by rw [hH, hlocs]; exact hW
  refine start_ hH hlocs ?_
  refine lv_iload_n hx hb dX11_rests_0 rfl (lv_at hl 1 rfl) ?_
  refine lv_iconst (v := 1) hx hb dX11_rests_1 (by decide) ?_
  refine lv_icmp_lt (tgt := 9) hx hb dX11_rests_2 (by decide) (fun c1 => ?_) (fun c1 => ?_)
  · have c1 : a0.toInt < 1 := tlt rfl kp1 c1
    refine lv_aload_n hx hb dX11_rests_9 rfl (lv_at hl 0 rfl) ?_
    refine lv_bipush (v := (-4)) hx hb dX11_rests_10 (by decide) ?_
    refine ci_ C hW (runV (x := (g.2.2.1 12)) (As := [.int (-4)]) (rest := []) (T := ((J, L, I, P, E, N), sgX g ++ dy)) C hW (c_X11_refuse l g J L I P E N dy H.size (-4) hwf) mi_X11_refuse tw_411 (recv_ (T := ((J, L, I, P, E, N), sgX g ++ dy)) C hW (mx_ rfl) rfl rfl) ⟨rfl, rfl, Nat.le_of_ble_eq_true rfl, Nat.le_of_ble_eq_true rfl⟩ rfl hl.1 rfl (Nat.le_of_ble_eq_true rfl) dX11_rests_12 ⟨Nat.le_of_ble_eq_true rfl, Nat.le_of_ble_eq_true rfl⟩) (fun r2 u2 H locs hp2 hW => ?_)
    have hc2 : ((r2 = (-4))) := hp2
    clear hp2
    have hr2 : r2.toInt = (-4) := by rw [hc2]; exact kn4
    have hW : WB g A s.heap H locs ((hv J [42] [] u2), L, I, P, E, N) (sgX g ++ dy) := hW
    have hWr : WB g A s.heap H locs ((hv J [42] [(12, 12), (12, 13)] (hv J [42] [] u2)), L, I, P, E, N) (sgX g ++ dy) := by
      rw [← ag_hvE (J := J) (R := [42]) (F := [(12, 12), (12, 13)]) (ag_hv rfl rfl ag_rf)]
      exact hW
    exact end_i C hr hlocks (hv J [42] [] u2) hWr (by first | exact Or.inl ⟨by omega, by omega, show J 12 12 = J 12 12 from by first | rfl | assumption, show J 12 13 = J 12 13 from by first | rfl | assumption⟩ | exact Or.inr (Or.inl ⟨by omega, by omega, show J 12 12 = J 12 12 from by first | rfl | assumption, show J 12 13 = J 12 13 from by first | rfl | assumption⟩) | exact Or.inr (Or.inr (⟨by simp only [*], by omega, show J 12 12 = a0 from by first | rfl | assumption, show J 12 13 = a1 from by first | rfl | assumption⟩))) dX11_rests_15
  · have c1 : 1 ≤ a0.toInt := tnlt rfl kp1 c1
    refine lv_iload_n hx hb dX11_rests_5 rfl (lv_at hl 2 rfl) ?_
    refine lv_if_ge (tgt := 16) hx hb dX11_rests_6 (by decide) (fun c3 => ?_) (fun c3 => ?_)
    · have c3 : 0 ≤ a1.toInt := tle kp0 rfl c3
      refine lv_iload_n hx hb dX11_rests_16 rfl (lv_at hl 1 rfl) ?_
      refine lv_sipush (v := 240) hx hb dX11_rests_17 (by decide) ?_
      refine lv_icmp_gt (tgt := 30) hx hb dX11_rests_20 (by decide) (fun c4 => ?_) (fun c4 => ?_)
      · have c4 : 240 < a0.toInt := tlt kp240 rfl c4
        refine lv_aload_n hx hb dX11_rests_30 rfl (lv_at hl 0 rfl) ?_
        refine lv_bipush (v := (-6)) hx hb dX11_rests_31 (by decide) ?_
        refine ci_ C hW (runV (x := (g.2.2.1 12)) (As := [.int (-6)]) (rest := []) (T := ((J, L, I, P, E, N), sgX g ++ dy)) C hW (c_X11_refuse l g J L I P E N dy H.size (-6) hwf) mi_X11_refuse tw_411 (recv_ (T := ((J, L, I, P, E, N), sgX g ++ dy)) C hW (mx_ rfl) rfl rfl) ⟨rfl, rfl, Nat.le_of_ble_eq_true rfl, Nat.le_of_ble_eq_true rfl⟩ rfl hl.1 rfl (Nat.le_of_ble_eq_true rfl) dX11_rests_33 ⟨Nat.le_of_ble_eq_true rfl, Nat.le_of_ble_eq_true rfl⟩) (fun r5 u5 H locs hp5 hW => ?_)
        have hc5 : ((r5 = (-6))) := hp5
        clear hp5
        have hr5 : r5.toInt = (-6) := by rw [hc5]; exact kn6
        have hW : WB g A s.heap H locs ((hv J [42] [] u5), L, I, P, E, N) (sgX g ++ dy) := hW
        have hWr : WB g A s.heap H locs ((hv J [42] [(12, 12), (12, 13)] (hv J [42] [] u5)), L, I, P, E, N) (sgX g ++ dy) := by
          rw [← ag_hvE (J := J) (R := [42]) (F := [(12, 12), (12, 13)]) (ag_hv rfl rfl ag_rf)]
          exact hW
        exact end_i C hr hlocks (hv J [42] [] u5) hWr (by first | exact Or.inl ⟨by omega, by omega, show J 12 12 = J 12 12 from by first | rfl | assumption, show J 12 13 = J 12 13 from by first | rfl | assumption⟩ | exact Or.inr (Or.inl ⟨by omega, by omega, show J 12 12 = J 12 12 from by first | rfl | assumption, show J 12 13 = J 12 13 from by first | rfl | assumption⟩) | exact Or.inr (Or.inr (⟨by simp only [*], by omega, show J 12 12 = a0 from by first | rfl | assumption, show J 12 13 = a1 from by first | rfl | assumption⟩))) dX11_rests_36
      · have c4 : a0.toInt ≤ 240 := tnlt kp240 rfl c4
        refine lv_iload_n hx hb dX11_rests_23 rfl (lv_at hl 2 rfl) ?_
        refine lv_sipush (v := 240) hx hb dX11_rests_24 (by decide) ?_
        refine lv_icmp_le (tgt := 37) hx hb dX11_rests_27 (by decide) (fun c6 => ?_) (fun c6 => ?_)
        · have c6 : a1.toInt ≤ 240 := tle rfl kp240 c6
          refine lv_sipush (v := 1000) hx hb dX11_rests_37 (by decide) ?_
          refine lv_aload_n hx hb dX11_rests_40 rfl (lv_at hl 0 rfl) ?_
          refine rg_12_12 C hW (mx_ rfl) tw_376 dX11_rests_41 ?_
          refine lv_imul hx hb dX11_rests_44 ?_
          refine lv_topi (fun x7 (e7 : x7 = 1000 * (J 12 12)) => ?_)
          refine lv_aload_n hx hb dX11_rests_45 rfl (lv_at hl 0 rfl) ?_
          refine rg_12_13 C hW (mx_ rfl) tw_377 dX11_rests_46 ?_
          refine lv_iadd hx hb dX11_rests_49 ?_
          refine lv_topi (fun x8 (e8 : x8 = x7 + (J 12 13)) => ?_)
          refine lv_istore_n (lv' := [(3, .int x8), (0, .ref (g.2.2.1 12)), (1, .int a0), (2, .int a1)]) hx hb dX11_rests_50 rfl hl (by decide) rfl (fun ls hl => ?_)
          refine lv_aload_n hx hb dX11_rests_51 rfl (lv_at hl 1 rfl) ?_
          refine lv_iload_n hx hb dX11_rests_52 rfl (lv_at hl 2 rfl) ?_
          refine rp_12_12 C hW (mx_ rfl) tw_376 dX11_rests_53 (fun H locs hW => ?_)
          refine lv_aload_n hx hb dX11_rests_56 rfl (lv_at hl 1 rfl) ?_
          refine lv_iload_n hx hb dX11_rests_57 rfl (lv_at hl 3 rfl) ?_
          refine rp_12_13 C hW (mx_ rfl) tw_377 dX11_rests_58 (fun H locs hW => ?_)
          refine lv_iload_n hx hb dX11_rests_61 rfl (lv_at hl 0 rfl) ?_
          have hWr : WB g A s.heap H locs ((hv J [42] [(12, 12), (12, 13)] (up2 (up2 J 12 12 a0) 12 13 a1)), L, I, P, E, N) (sgX g ++ dy) := by
            rw [← ag_hvE (J := J) (R := [42]) (F := [(12, 12), (12, 13)]) (ag_up (Or.inr rfl) (ag_up (Or.inr rfl) ag_rf))]
            exact hW
          exact end_i C hr hlocks (up2 (up2 J 12 12 a0) 12 13 a1) hWr (by first | exact Or.inl ⟨by omega, by omega, show a0 = J 12 12 from by first | rfl | assumption, show a1 = J 12 13 from by first | rfl | assumption⟩ | exact Or.inr (Or.inl ⟨by omega, by omega, show a0 = J 12 12 from by first | rfl | assumption, show a1 = J 12 13 from by first | rfl | assumption⟩) | exact Or.inr (Or.inr (⟨by simp only [*], by omega, show a0 = a0 from by first | rfl | assumption, show a1 = a1 from by first | rfl | assumption⟩))) dX11_rests_62
        · have c6 : 240 < a1.toInt := tnle rfl kp240 c6
          refine lv_aload_n hx hb dX11_rests_30 rfl (lv_at hl 0 rfl) ?_
          refine lv_bipush (v := (-6)) hx hb dX11_rests_31 (by decide) ?_
          refine ci_ C hW (runV (x := (g.2.2.1 12)) (As := [.int (-6)]) (rest := []) (T := ((J, L, I, P, E, N), sgX g ++ dy)) C hW (c_X11_refuse l g J L I P E N dy H.size (-6) hwf) mi_X11_refuse tw_411 (recv_ (T := ((J, L, I, P, E, N), sgX g ++ dy)) C hW (mx_ rfl) rfl rfl) ⟨rfl, rfl, Nat.le_of_ble_eq_true rfl, Nat.le_of_ble_eq_true rfl⟩ rfl hl.1 rfl (Nat.le_of_ble_eq_true rfl) dX11_rests_33 ⟨Nat.le_of_ble_eq_true rfl, Nat.le_of_ble_eq_true rfl⟩) (fun r9 u9 H locs hp9 hW => ?_)
          have hc9 : ((r9 = (-6))) := hp9
          clear hp9
          have hr9 : r9.toInt = (-6) := by rw [hc9]; exact kn6
          have hW : WB g A s.heap H locs ((hv J [42] [] u9), L, I, P, E, N) (sgX g ++ dy) := hW
          have hWr : WB g A s.heap H locs ((hv J [42] [(12, 12), (12, 13)] (hv J [42] [] u9)), L, I, P, E, N) (sgX g ++ dy) := by
            rw [← ag_hvE (J := J) (R := [42]) (F := [(12, 12), (12, 13)]) (ag_hv rfl rfl ag_rf)]
            exact hW
          exact end_i C hr hlocks (hv J [42] [] u9) hWr (by first | exact Or.inl ⟨by omega, by omega, show J 12 12 = J 12 12 from by first | rfl | assumption, show J 12 13 = J 12 13 from by first | rfl | assumption⟩ | exact Or.inr (Or.inl ⟨by omega, by omega, show J 12 12 = J 12 12 from by first | rfl | assumption, show J 12 13 = J 12 13 from by first | rfl | assumption⟩) | exact Or.inr (Or.inr (⟨by simp only [*], by omega, show J 12 12 = a0 from by first | rfl | assumption, show J 12 13 = a1 from by first | rfl | assumption⟩))) dX11_rests_36
    · have c3 : a1.toInt < 0 := tnle kp0 rfl c3
      refine lv_aload_n hx hb dX11_rests_9 rfl (lv_at hl 0 rfl) ?_
      refine lv_bipush (v := (-4)) hx hb dX11_rests_10 (by decide) ?_
      refine ci_ C hW (runV (x := (g.2.2.1 12)) (As := [.int (-4)]) (rest := []) (T := ((J, L, I, P, E, N), sgX g ++ dy)) C hW (c_X11_refuse l g J L I P E N dy H.size (-4) hwf) mi_X11_refuse tw_411 (recv_ (T := ((J, L, I, P, E, N), sgX g ++ dy)) C hW (mx_ rfl) rfl rfl) ⟨rfl, rfl, Nat.le_of_ble_eq_true rfl, Nat.le_of_ble_eq_true rfl⟩ rfl hl.1 rfl (Nat.le_of_ble_eq_true rfl) dX11_rests_12 ⟨Nat.le_of_ble_eq_true rfl, Nat.le_of_ble_eq_true rfl⟩) (fun r10 u10 H locs hp10 hW => ?_)
      have hc10 : ((r10 = (-4))) := hp10
      clear hp10
      have hr10 : r10.toInt = (-4) := by rw [hc10]; exact kn4
      have hW : WB g A s.heap H locs ((hv J [42] [] u10), L, I, P, E, N) (sgX g ++ dy) := hW
      have hWr : WB g A s.heap H locs ((hv J [42] [(12, 12), (12, 13)] (hv J [42] [] u10)), L, I, P, E, N) (sgX g ++ dy) := by
        rw [← ag_hvE (J := J) (R := [42]) (F := [(12, 12), (12, 13)]) (ag_hv rfl rfl ag_rf)]
        exact hW
      exact end_i C hr hlocks (hv J [42] [] u10) hWr (by first | exact Or.inl ⟨by omega, by omega, show J 12 12 = J 12 12 from by first | rfl | assumption, show J 12 13 = J 12 13 from by first | rfl | assumption⟩ | exact Or.inr (Or.inl ⟨by omega, by omega, show J 12 12 = J 12 12 from by first | rfl | assumption, show J 12 13 = J 12 13 from by first | rfl | assumption⟩) | exact Or.inr (Or.inr (⟨by simp only [*], by omega, show J 12 12 = a0 from by first | rfl | assumption, show J 12 13 = a1 from by first | rfl | assumption⟩))) dX11_rests_15

set_option maxHeartbeats 4000000 in
set_option maxRecDepth 100000 in
theorem c_X11_refusedSoFar (l : Launch) (g : gG) (J : Nat → Nat → Int32) (L : Nat → Nat → Int64) (I : Nat → Nat → Nat → Int32) (P : Nat → Nat → Nat → Option Nat) (E : Nat → Option Nat) (N : Nat → Nat) (dy : List (Nat × Nat)) (sz : Nat) (a0 : Int32) (hwf : WXF g J P E N dy) : Met l yX11_refusedSoFar (WS yX11_refusedSoFar cX11_refusedSoFar 3 (some .int)) (RM (1) 0 0) (PC g [.ref (g.2.2.1 12), .int a0] ((J, L, I, P, E, N), sgX g ++ dy) sz) (va_Qi (fun (r : Int32) (u : Unit) => True) (fun u t => at_ g (FR g ((J, L, I, P, E, N), sgX g ++ dy) sz) ((J, L, I, P, E, N), sgX g ++ dy) t) (FR g ((J, L, I, P, E, N), sgX g ++ dy) sz)) 0 0 (FR g ((J, L, I, P, E, N), sgX g ++ dy) sz) := by
  refine ent (by decide +kernel) (Nat.le_of_ble_eq_true rfl) ?_
  intro p e s m below meth c ls hsz C hW hr hlocks hname hl
  generalize FR g ((J, L, I, P, E, N), sgX g ++ dy) sz = A at C hW ⊢
  have hx := C.1.1
  have hb := C.1.2.1
  have hts := C.1.2.2.2.2
  have hl : lv_has ls 3 [(0, .ref (g.2.2.1 12)), (1, .int a0)] := hl
  obtain ⟨H, hH⟩ : ∃ H : Heap, H = s.heap := ⟨_, rfl⟩
  obtain ⟨locs, hlocs⟩ : ∃ q : List Loc, q = [] := ⟨_, rfl⟩
  have hW : WB g A s.heap H locs (J, L, I, P, E, N) (sgX g ++ dy) := by rw [hH, hlocs]; exact hW
  refine start_ hH hlocs ?_
  refine lv_iload_n hx hb dX11_refusedSoFar_0 rfl (lv_at hl 1 rfl) ?_
  refine lv_bipush (v := 11) hx hb dX11_refusedSoFar_1 (by decide) ?_
  refine lv_icmp_lt (tgt := 12) hx hb dX11_refusedSoFar_3 (by decide) (fun c1 => ?_) (fun c1 => ?_)
  · have c1 : a0.toInt < 11 := tlt rfl kp11 c1
    refine lv_bipush (v := (-9)) hx hb dX11_refusedSoFar_12 (by decide) ?_
    exact end_i C hr hlocks () hW trivial dX11_refusedSoFar_14
  · have c1 : 11 ≤ a0.toInt := tnlt rfl kp11 c1
    refine lv_iload_n hx hb dX11_refusedSoFar_6 rfl (lv_at hl 1 rfl) ?_
    refine lv_bipush (v := 16) hx hb dX11_refusedSoFar_7 (by decide) ?_
    refine lv_icmp_le (tgt := 15) hx hb dX11_refusedSoFar_9 (by decide) (fun c2 => ?_) (fun c2 => ?_)
    · have c2 : a0.toInt ≤ 16 := tle rfl kp16 c2
      refine lv_iload_n hx hb dX11_refusedSoFar_15 rfl (lv_at hl 1 rfl) ?_
      refine lv_bipush (v := 10) hx hb dX11_refusedSoFar_16 (by decide) ?_
      refine lv_isub hx hb dX11_refusedSoFar_18 ?_
      refine lv_topi (fun x3 (e3 : x3 = a0 - 10) => ?_)
      try have t3 : x3.toInt = a0.toInt - 10 := tsub e3 rfl kp10 (by omega)
      refine lv_istore_n (lv' := [(2, .int x3), (0, .ref (g.2.2.1 12)), (1, .int a0)]) hx hb dX11_refusedSoFar_19 rfl hl (by decide) rfl (fun ls hl => ?_)
      refine lv_iload_n hx hb dX11_refusedSoFar_20 rfl (lv_at hl 0 rfl) ?_
      refine lv_aload_n hx hb dX11_refusedSoFar_21 rfl (lv_at hl 1 rfl) ?_
      refine rg_12_9 C hW (mx_ rfl) tw_373 dX11_refusedSoFar_22 ?_
      refine rl_42 C hW (mx_ rfl) dX11_refusedSoFar_25 ?_
      refine lv_icmp_ge (tgt := 38) hx hb dX11_refusedSoFar_26 (by decide) (fun c4 => ?_) (fun c4 => ?_)
      · have c4 : 7 ≤ x3.toInt := tle kp7 rfl c4
        refine lv_bipush (v := (-9)) hx hb dX11_refusedSoFar_38 (by decide) ?_
        exact end_i C hr hlocks () hW trivial dX11_refusedSoFar_40
      · have c4 : x3.toInt < 7 := tnle kp7 rfl c4
        refine lv_aload_n hx hb dX11_refusedSoFar_29 rfl (lv_at hl 1 rfl) ?_
        refine rg_12_9 C hW (mx_ rfl) tw_373 dX11_refusedSoFar_30 ?_
        refine lv_iload_n hx hb dX11_refusedSoFar_33 rfl (lv_at hl 0 rfl) ?_
        have hin : vp_in x3 7 := tin rfl (by omega)
        refine ra_42 C hW (mx_ rfl) hin dX11_refusedSoFar_34 ?_
        refine lv_topi (fun x5 (e5 : x5 = J 42 x3.toNatClampNeg) => ?_)
        refine lv_goto (tgt := 40) hx hb dX11_refusedSoFar_35 (by decide) ?_
        exact end_i C hr hlocks () hW trivial dX11_refusedSoFar_40
    · have c2 : 16 < a0.toInt := tnle rfl kp16 c2
      refine lv_bipush (v := (-9)) hx hb dX11_refusedSoFar_12 (by decide) ?_
      exact end_i C hr hlocks () hW trivial dX11_refusedSoFar_14

set_option maxHeartbeats 4000000 in
set_option maxRecDepth 100000 in
theorem c_X11_hourOf (l : Launch) (g : gG) (J : Nat → Nat → Int32) (L : Nat → Nat → Int64) (I : Nat → Nat → Nat → Int32) (P : Nat → Nat → Nat → Option Nat) (E : Nat → Option Nat) (N : Nat → Nat) (dy : List (Nat × Nat)) (sz : Nat) (a0 : Int32)  : Met l yX11_hourOf (WS yX11_hourOf cX11_hourOf 1 (some .int)) (RM (1) 0 0) (PC g [.int a0] ((J, L, I, P, E, N), sgX g ++ dy) sz) (va_Qi (fun (r : Int32) (u : Unit) => True) (fun u t => at_ g (FR g ((J, L, I, P, E, N), sgX g ++ dy) sz) ((J, L, I, P, E, N), sgX g ++ dy) t) (FR g ((J, L, I, P, E, N), sgX g ++ dy) sz)) 0 0 (FR g ((J, L, I, P, E, N), sgX g ++ dy) sz) := by
  refine ent (by decide +kernel) (Nat.le_of_ble_eq_true rfl) ?_
  intro p e s m below meth c ls hsz C hW hr hlocks hname hl
  generalize FR g ((J, L, I, P, E, N), sgX g ++ dy) sz = A at C hW ⊢
  have hx := C.1.1
  have hb := C.1.2.1
  have hts := C.1.2.2.2.2
  have hl : lv_has ls 1 [(0, .int a0)] := hl
  obtain ⟨H, hH⟩ : ∃ H : Heap, H = s.heap := ⟨_, rfl⟩
  obtain ⟨locs, hlocs⟩ : ∃ q : List Loc, q = [] := ⟨_, rfl⟩
  have hW : WB g A s.heap H locs (J, L, I, P, E, N) (sgX g ++ dy) := by rw [hH, hlocs]; exact hW
  refine start_ hH hlocs ?_
  refine lv_iload_n hx hb dX11_hourOf_0 rfl (lv_at hl 0 rfl) ?_
  refine lv_bipush (v := 60) hx hb dX11_hourOf_1 (by decide) ?_
  refine lv_idiv hx hb dX11_hourOf_3 (by decide) ?_
  refine lv_topi (fun x1 (e1 : x1 = a0 / 60) => ?_)
  have t1 : x1.toInt = a0.toInt.tdiv 60 := tdiv e1 rfl kp60 (by decide)
  refine lv_bipush (v := 24) hx hb dX11_hourOf_4 (by decide) ?_
  refine lv_irem hx hb dX11_hourOf_6 (by decide) ?_
  refine lv_topi (fun x2 (e2 : x2 = x1 - x1 / 24 * 24) => ?_)
  have t2 : x2.toInt = x1.toInt.tmod 24 := tmod e2 rfl kp24 (by decide) (by decide)
  exact end_i C hr hlocks () hW trivial dX11_hourOf_7

set_option maxHeartbeats 4000000 in
set_option maxRecDepth 100000 in
theorem c_X3_nodeOf (l : Launch) (g : gG) (J : Nat → Nat → Int32) (L : Nat → Nat → Int64) (I : Nat → Nat → Nat → Int32) (P : Nat → Nat → Nat → Option Nat) (E : Nat → Option Nat) (N : Nat → Nat) (dy : List (Nat × Nat)) (sz : Nat) (a0 : Int32) (hwf : WXF g J P E N dy) : Met l yX3_nodeOf (WS yX3_nodeOf cX3_nodeOf 2 (some (.object "EarPaper$Node"))) (RM (4) 0 0) (PC g [.ref (g.2.2.1 4), .int a0] ((J, L, I, P, E, N), sgX g ++ dy) sz) (va_Qq (fun (r : Option Nat) (u : Unit) => ((r = none ∧ (¬ (0 ≤ a0.toInt ∧ a0.toInt < (J 20 2).toInt))) ∨ (r = some (elt E P 20 a0.toNatClampNeg) ∧ (0 ≤ a0.toInt ∧ a0.toInt < (J 20 2).toInt)))) (fun u t => at_ g (FR g ((J, L, I, P, E, N), sgX g ++ dy) sz) ((J, L, I, P, E, N), sgX g ++ dy) t) (FR g ((J, L, I, P, E, N), sgX g ++ dy) sz)) 0 0 (FR g ((J, L, I, P, E, N), sgX g ++ dy) sz) := by
  refine ent (by decide +kernel) (Nat.le_of_ble_eq_true rfl) ?_
  intro p e s m below meth c ls hsz C hW hr hlocks hname hl
  generalize FR g ((J, L, I, P, E, N), sgX g ++ dy) sz = A at C hW ⊢
  have hx := C.1.1
  have hb := C.1.2.1
  have hts := C.1.2.2.2.2
  have hl : lv_has ls 2 [(0, .ref (g.2.2.1 4)), (1, .int a0)] := hl
  obtain ⟨H, hH⟩ : ∃ H : Heap, H = s.heap := ⟨_, rfl⟩
  obtain ⟨locs, hlocs⟩ : ∃ q : List Loc, q = [] := ⟨_, rfl⟩
  have hW : WB g A s.heap H locs (J, L, I, P, E, N) (sgX g ++ dy) := by rw [hH, hlocs]; exact hW
  refine start_ hH hlocs ?_
  refine lv_iload_n hx hb dX3_nodeOf_0 rfl (lv_at hl 1 rfl) ?_
  refine lv_if_lt (tgt := 29) hx hb dX3_nodeOf_1 (by decide) (fun c1 => ?_) (fun c1 => ?_)
  · have c1 : a0.toInt < 0 := tlt rfl kp0 c1
    refine lv_null hx hb dX3_nodeOf_29 ?_
    exact end_q (v := none) C hr (Or.inl ⟨_, rfl⟩) hlocks () hW (Or.inl ⟨rfl, by omega⟩) dX3_nodeOf_30
  · have c1 : 0 ≤ a0.toInt := tnlt rfl kp0 c1
    refine lv_iload_n hx hb dX3_nodeOf_4 rfl (lv_at hl 1 rfl) ?_
    refine lv_aload_n hx hb dX3_nodeOf_5 rfl (lv_at hl 0 rfl) ?_
    refine rg_4_0 C hW (mx_ rfl) tw_232 dX3_nodeOf_6 ?_
    refine ci_ C hW (runV (x := (g.2.2.1 20)) (As := []) (rest := [.int a0]) (T := ((J, L, I, P, E, N), sgX g ++ dy)) C hW (c_Jx4a65c_size_8abf5 l g J L I P E N dy H.size 20 rfl ) mi_Jx4a65c_size_8abf5 tw_467 (recv_ (T := ((J, L, I, P, E, N), sgX g ++ dy)) C hW (mx_ rfl) (cel_list rfl) rfl) ⟨rfl, rfl, Nat.le_of_ble_eq_true rfl, Nat.le_of_ble_eq_true rfl⟩ rfl hl.1 rfl (Nat.le_of_ble_eq_true rfl) dX3_nodeOf_9 ⟨Nat.le_of_ble_eq_true rfl, Nat.le_of_ble_eq_true rfl⟩) (fun r2 u2 H locs hp2 hW => ?_)
    have hc2 : ((r2 = J 20 2)) := hp2
    clear hp2
    have hr2 : r2 = J 20 2 := hc2
    refine lv_as (J 20 2) hr2 ?_
    have hW : WB g A s.heap H locs (J, L, I, P, E, N) (sgX g ++ dy) := hW
    refine lv_icmp_ge (tgt := 29) hx hb dX3_nodeOf_12 (by decide) (fun c3 => ?_) (fun c3 => ?_)
    · have c3 : (J 20 2).toInt ≤ a0.toInt := tle rfl rfl c3
      refine lv_null hx hb dX3_nodeOf_29 ?_
      exact end_q (v := none) C hr (Or.inl ⟨_, rfl⟩) hlocks () hW (Or.inl ⟨rfl, by omega⟩) dX3_nodeOf_30
    · have c3 : a0.toInt < (J 20 2).toInt := tnle rfl rfl c3
      refine lv_aload_n hx hb dX3_nodeOf_15 rfl (lv_at hl 0 rfl) ?_
      refine rg_4_0 C hW (mx_ rfl) tw_232 dX3_nodeOf_16 ?_
      refine lv_iload_n hx hb dX3_nodeOf_19 rfl (lv_at hl 1 rfl) ?_
      refine cq_ C hW (runV (x := (g.2.2.1 20)) (As := [.int a0]) (rest := []) (T := ((J, L, I, P, E, N), sgX g ++ dy)) C hW ((c_Jx4a65c_get_915e3 6) l g J L I P E N dy H.size 20 rfl a0 (show LWF g J P E N dy 20 6 from hwf.1.1) (show 0 ≤ a0.toInt ∧ a0.toInt < (J 20 2).toInt from by omega)) mi_Jx4a65c_get_915e3 tw_471 (recv_ (T := ((J, L, I, P, E, N), sgX g ++ dy)) C hW (mx_ rfl) (cel_list rfl) rfl) ⟨rfl, rfl, Nat.le_of_ble_eq_true rfl, Nat.le_of_ble_eq_true rfl⟩ rfl hl.1 rfl (Nat.le_of_ble_eq_true rfl) dX3_nodeOf_20 ⟨Nat.le_of_ble_eq_true rfl, Nat.le_of_ble_eq_true rfl⟩) (fun q4 u4 H locs hp4 hW => ?_)
      have hq4 : (q4 = some (elt E P 20 a0.toNatClampNeg)) := hp4
      clear hp4
      have hW : WB g A s.heap H locs (J, L, I, P, E, N) (sgX g ++ dy) := hW
      subst hq4
      obtain ⟨o4, ho4⟩ : ∃ z : Nat, z = elt E P 20 a0.toNatClampNeg := ⟨_, rfl⟩
      have hm4 : (6, o4) ∈ dy := by rw [ho4]; exact (lw_mem (er := 6) hwf.1.1 (show (a0.toNatClampNeg : Int) < (J 20 2).toInt from by have := tcl a0; omega))
      refine lv_asv (v' := .ref o4) (by rw [ho4]; rfl) ?_
      refine g_cast C hW (List.mem_append_right _ hm4) rfl rfl tw_131 dX3_nodeOf_23 ?_
      refine lv_goto (tgt := 30) hx hb dX3_nodeOf_26 (by decide) ?_
      exact end_q (v := some o4) C hr (Or.inl ⟨_, rfl⟩) hlocks () hW (Or.inr ⟨(by simp only [*]), by omega⟩) dX3_nodeOf_30

set_option maxHeartbeats 4000000 in
set_option maxRecDepth 100000 in
theorem c_X3_homeOf (l : Launch) (g : gG) (J : Nat → Nat → Int32) (L : Nat → Nat → Int64) (I : Nat → Nat → Nat → Int32) (P : Nat → Nat → Nat → Option Nat) (E : Nat → Option Nat) (N : Nat → Nat) (dy : List (Nat × Nat)) (sz : Nat) (a0 : Int32) (hwf : WXF g J P E N dy) : Met l yX3_homeOf (WS yX3_homeOf cX3_homeOf 2 (some (.object "EarPaper$Home"))) (RM (4) 0 0) (PC g [.ref (g.2.2.1 4), .int a0] ((J, L, I, P, E, N), sgX g ++ dy) sz) (va_Qq (fun (r : Option Nat) (u : Unit) => ((r = none ∧ (¬ (0 ≤ a0.toInt ∧ a0.toInt < (J 22 2).toInt))) ∨ (r = some (elt E P 22 a0.toNatClampNeg) ∧ (0 ≤ a0.toInt ∧ a0.toInt < (J 22 2).toInt)))) (fun u t => at_ g (FR g ((J, L, I, P, E, N), sgX g ++ dy) sz) ((J, L, I, P, E, N), sgX g ++ dy) t) (FR g ((J, L, I, P, E, N), sgX g ++ dy) sz)) 0 0 (FR g ((J, L, I, P, E, N), sgX g ++ dy) sz) := by
  refine ent (by decide +kernel) (Nat.le_of_ble_eq_true rfl) ?_
  intro p e s m below meth c ls hsz C hW hr hlocks hname hl
  generalize FR g ((J, L, I, P, E, N), sgX g ++ dy) sz = A at C hW ⊢
  have hx := C.1.1
  have hb := C.1.2.1
  have hts := C.1.2.2.2.2
  have hl : lv_has ls 2 [(0, .ref (g.2.2.1 4)), (1, .int a0)] := hl
  obtain ⟨H, hH⟩ : ∃ H : Heap, H = s.heap := ⟨_, rfl⟩
  obtain ⟨locs, hlocs⟩ : ∃ q : List Loc, q = [] := ⟨_, rfl⟩
  have hW : WB g A s.heap H locs (J, L, I, P, E, N) (sgX g ++ dy) := by rw [hH, hlocs]; exact hW
  refine start_ hH hlocs ?_
  refine lv_iload_n hx hb dX3_homeOf_0 rfl (lv_at hl 1 rfl) ?_
  refine lv_if_lt (tgt := 29) hx hb dX3_homeOf_1 (by decide) (fun c1 => ?_) (fun c1 => ?_)
  · have c1 : a0.toInt < 0 := tlt rfl kp0 c1
    refine lv_null hx hb dX3_homeOf_29 ?_
    exact end_q (v := none) C hr (Or.inl ⟨_, rfl⟩) hlocks () hW (Or.inl ⟨rfl, by omega⟩) dX3_homeOf_30
  · have c1 : 0 ≤ a0.toInt := tnlt rfl kp0 c1
    refine lv_iload_n hx hb dX3_homeOf_4 rfl (lv_at hl 1 rfl) ?_
    refine lv_aload_n hx hb dX3_homeOf_5 rfl (lv_at hl 0 rfl) ?_
    refine rg_4_2 C hW (mx_ rfl) tw_236 dX3_homeOf_6 ?_
    refine ci_ C hW (runV (x := (g.2.2.1 22)) (As := []) (rest := [.int a0]) (T := ((J, L, I, P, E, N), sgX g ++ dy)) C hW (c_Jx4a65c_size_8abf5 l g J L I P E N dy H.size 22 rfl ) mi_Jx4a65c_size_8abf5 tw_467 (recv_ (T := ((J, L, I, P, E, N), sgX g ++ dy)) C hW (mx_ rfl) (cel_list rfl) rfl) ⟨rfl, rfl, Nat.le_of_ble_eq_true rfl, Nat.le_of_ble_eq_true rfl⟩ rfl hl.1 rfl (Nat.le_of_ble_eq_true rfl) dX3_homeOf_9 ⟨Nat.le_of_ble_eq_true rfl, Nat.le_of_ble_eq_true rfl⟩) (fun r2 u2 H locs hp2 hW => ?_)
    have hc2 : ((r2 = J 22 2)) := hp2
    clear hp2
    have hr2 : r2 = J 22 2 := hc2
    refine lv_as (J 22 2) hr2 ?_
    have hW : WB g A s.heap H locs (J, L, I, P, E, N) (sgX g ++ dy) := hW
    refine lv_icmp_ge (tgt := 29) hx hb dX3_homeOf_12 (by decide) (fun c3 => ?_) (fun c3 => ?_)
    · have c3 : (J 22 2).toInt ≤ a0.toInt := tle rfl rfl c3
      refine lv_null hx hb dX3_homeOf_29 ?_
      exact end_q (v := none) C hr (Or.inl ⟨_, rfl⟩) hlocks () hW (Or.inl ⟨rfl, by omega⟩) dX3_homeOf_30
    · have c3 : a0.toInt < (J 22 2).toInt := tnle rfl rfl c3
      refine lv_aload_n hx hb dX3_homeOf_15 rfl (lv_at hl 0 rfl) ?_
      refine rg_4_2 C hW (mx_ rfl) tw_236 dX3_homeOf_16 ?_
      refine lv_iload_n hx hb dX3_homeOf_19 rfl (lv_at hl 1 rfl) ?_
      refine cq_ C hW (runV (x := (g.2.2.1 22)) (As := [.int a0]) (rest := []) (T := ((J, L, I, P, E, N), sgX g ++ dy)) C hW ((c_Jx4a65c_get_915e3 2) l g J L I P E N dy H.size 22 rfl a0 (show LWF g J P E N dy 22 2 from hwf.1.2.2.1) (show 0 ≤ a0.toInt ∧ a0.toInt < (J 22 2).toInt from by omega)) mi_Jx4a65c_get_915e3 tw_471 (recv_ (T := ((J, L, I, P, E, N), sgX g ++ dy)) C hW (mx_ rfl) (cel_list rfl) rfl) ⟨rfl, rfl, Nat.le_of_ble_eq_true rfl, Nat.le_of_ble_eq_true rfl⟩ rfl hl.1 rfl (Nat.le_of_ble_eq_true rfl) dX3_homeOf_20 ⟨Nat.le_of_ble_eq_true rfl, Nat.le_of_ble_eq_true rfl⟩) (fun q4 u4 H locs hp4 hW => ?_)
      have hq4 : (q4 = some (elt E P 22 a0.toNatClampNeg)) := hp4
      clear hp4
      have hW : WB g A s.heap H locs (J, L, I, P, E, N) (sgX g ++ dy) := hW
      subst hq4
      obtain ⟨o4, ho4⟩ : ∃ z : Nat, z = elt E P 22 a0.toNatClampNeg := ⟨_, rfl⟩
      have hm4 : (2, o4) ∈ dy := by rw [ho4]; exact (lw_mem (er := 2) hwf.1.2.2.1 (show (a0.toNatClampNeg : Int) < (J 22 2).toInt from by have := tcl a0; omega))
      refine lv_asv (v' := .ref o4) (by rw [ho4]; rfl) ?_
      refine g_cast C hW (List.mem_append_right _ hm4) rfl rfl tw_580 dX3_homeOf_23 ?_
      refine lv_goto (tgt := 30) hx hb dX3_homeOf_26 (by decide) ?_
      exact end_q (v := some o4) C hr (Or.inl ⟨_, rfl⟩) hlocks () hW (Or.inr ⟨(by simp only [*]), by omega⟩) dX3_homeOf_30

set_option maxHeartbeats 4000000 in
set_option maxRecDepth 100000 in
theorem c_X1_isReached (l : Launch) (g : gG) (J : Nat → Nat → Int32) (L : Nat → Nat → Int64) (I : Nat → Nat → Nat → Int32) (P : Nat → Nat → Nat → Option Nat) (E : Nat → Option Nat) (N : Nat → Nat) (dy : List (Nat × Nat)) (sz : Nat) (o : Nat) (hmo : (2, o) ∈ dy) (a0 : Int32) (hwf : WXF g J P E N dy) : Met l yX1_isReached (WS yX1_isReached cX1_isReached 2 (some .boolean)) (RM (1) 0 0) (PC g [.ref o, .int a0] ((J, L, I, P, E, N), sgX g ++ dy) sz) (va_Qi (fun (r : Int32) (u : Unit) => ((r.toInt = 1) ∨ (r.toInt = 0))) (fun u t => at_ g (FR g ((J, L, I, P, E, N), sgX g ++ dy) sz) ((J, L, I, P, E, N), sgX g ++ dy) t) (FR g ((J, L, I, P, E, N), sgX g ++ dy) sz)) 0 0 (FR g ((J, L, I, P, E, N), sgX g ++ dy) sz) := by
  refine ent (by decide +kernel) (Nat.le_of_ble_eq_true rfl) ?_
  intro p e s m below meth c ls hsz C hW hr hlocks hname hl
  generalize FR g ((J, L, I, P, E, N), sgX g ++ dy) sz = A at C hW ⊢
  have hx := C.1.1
  have hb := C.1.2.1
  have hts := C.1.2.2.2.2
  have hl : lv_has ls 2 [(0, .ref o), (1, .int a0)] := hl
  obtain ⟨H, hH⟩ : ∃ H : Heap, H = s.heap := ⟨_, rfl⟩
  obtain ⟨locs, hlocs⟩ : ∃ q : List Loc, q = [] := ⟨_, rfl⟩
  have hW : WB g A s.heap H locs (J, L, I, P, E, N) (sgX g ++ dy) := by rw [hH, hlocs]; exact hW
  refine start_ hH hlocs ?_
  refine lv_aload_n hx hb dX1_isReached_0 rfl (lv_at hl 0 rfl) ?_
  refine rg_2_0 C hW (List.mem_append_right _ hmo) tw_548 dX1_isReached_1 ?_
  obtain ⟨b1, hb1, hbm1⟩ := hwf.2.2.2.2.1 o hmo
  refine lv_asv (v' := .ref b1) (by show va_rf (P 2 0 o) = _; rw [hb1]; rfl) ?_
  refine rg_6_7 C hW (List.mem_append_right _ hbm1) tw_150 dX1_isReached_4 ?_
  refine lv_topi (fun x2 (e2 : x2 = I 6 7 b1) => ?_)
  have t2 : x2.toInt = (I 6 7 b1).toInt := by rw [e2]
  refine lv_iload_n hx hb dX1_isReached_7 rfl (lv_at hl 1 rfl) ?_
  refine lv_aload_n hx hb dX1_isReached_8 rfl (lv_at hl 0 rfl) ?_
  refine rg_2_1 C hW (List.mem_append_right _ hmo) tw_550 dX1_isReached_9 ?_
  refine lv_topi (fun x3 (e3 : x3 = I 2 1 o) => ?_)
  have t3 : x3.toInt = (I 2 1 o).toInt := by rw [e3]
  refine lv_imul hx hb dX1_isReached_12 ?_
  refine lv_topi (fun x4 (e4 : x4 = a0 * x3) => ?_)
  refine lv_icmp_lt (tgt := 20) hx hb dX1_isReached_13 (by decide) (fun c5 => ?_) (fun c5 => ?_)
  · have c5 : x2.toInt < x4.toInt := tlt rfl rfl c5
    refine lv_iconst (v := 0) hx hb dX1_isReached_20 (by decide) ?_
    exact end_z C hr hlocks (by decide) () hW (by first | exact Or.inr ((by decide))) dX1_isReached_21
  · have c5 : x4.toInt ≤ x2.toInt := tnlt rfl rfl c5
    refine lv_iconst (v := 1) hx hb dX1_isReached_16 (by decide) ?_
    refine lv_goto (tgt := 21) hx hb dX1_isReached_17 (by decide) ?_
    exact end_z C hr hlocks (by decide) () hW (by first | exact Or.inl (by decide)) dX1_isReached_21
