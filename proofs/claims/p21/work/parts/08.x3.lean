theorem tmin {x y z : Int32} {a b : Int} (e : z = if y < x then y else x) (hx : x.toInt = a) (hy : y.toInt = b) : z.toInt = min a b := by
  by_cases h : y < x
  · have := tlt hy hx h; rw [e, if_pos h, hy]; omega
  · have := tnlt hy hx h; rw [e, if_neg h, hx]; omega
theorem tmax {x y z : Int32} {a b : Int} (e : z = if x < y then y else x) (hx : x.toInt = a) (hy : y.toInt = b) : z.toInt = max a b := by
  by_cases h : x < y
  · have := tlt hx hy h; rw [e, if_pos h, hy]; omega
  · have := tnlt hx hy h; rw [e, if_neg h, hx]; omega
theorem dX5_receive_0 : decode cX5_receive 0 = .ok (.aload_n 0, 1) := dk_aload_n_0 (by decide +kernel)
theorem dX5_receive_1 : decode cX5_receive 1 = .ok (.getfield 9, 3) := dk_getfield (by decide +kernel)
theorem dX5_receive_4 : decode cX5_receive 4 = .ok (.ifnonnull 9, 3) := dk_ifnonnull (by decide +kernel)
theorem dX5_receive_7 : decode cX5_receive 7 = .ok (.aload_n 0, 1) := dk_aload_n_0 (by decide +kernel)
theorem dX5_receive_8 : decode cX5_receive 8 = .ok (.iload_n 1, 1) := dk_iload_n_1 (by decide +kernel)
theorem dX5_receive_9 : decode cX5_receive 9 = .ok (.putfield 22, 3) := dk_putfield (by decide +kernel)
theorem dX5_receive_12 : decode cX5_receive 12 = .ok (.return_, 1) := dk_return_ (by decide +kernel)
theorem dX5_receive_13 : decode cX5_receive 13 = .ok (.aload_n 0, 1) := dk_aload_n_0 (by decide +kernel)
theorem dX5_receive_14 : decode cX5_receive 14 = .ok (.getfield 25, 3) := dk_getfield (by decide +kernel)
theorem dX5_receive_17 : decode cX5_receive 17 = .ok (.ifCond .eq 7, 3) := dk_ifCond_eq (by decide +kernel)
theorem dX5_receive_20 : decode cX5_receive 20 = .ok (.iconst 0, 1) := dk_iconst_0 (by decide +kernel)
theorem dX5_receive_21 : decode cX5_receive 21 = .ok (.goto 23, 3) := dk_goto (by decide +kernel)
theorem dX5_receive_24 : decode cX5_receive 24 = .ok (.aload_n 0, 1) := dk_aload_n_0 (by decide +kernel)
theorem dX5_receive_25 : decode cX5_receive 25 = .ok (.getfield 9, 3) := dk_getfield (by decide +kernel)
theorem dX5_receive_28 : decode cX5_receive 28 = .ok (.getfield 22, 3) := dk_getfield (by decide +kernel)
theorem dX5_receive_31 : decode cX5_receive 31 = .ok (.aload_n 0, 1) := dk_aload_n_0 (by decide +kernel)
theorem dX5_receive_32 : decode cX5_receive 32 = .ok (.getfield 15, 3) := dk_getfield (by decide +kernel)
theorem dX5_receive_35 : decode cX5_receive 35 = .ok (.bipush 10, 2) := dk_bipush (by decide +kernel)
theorem dX5_receive_37 : decode cX5_receive 37 = .ok (.iload_n 2, 1) := dk_iload_n_2 (by decide +kernel)
theorem dX5_receive_38 : decode cX5_receive 38 = .ok (.iadd, 1) := dk_iadd (by decide +kernel)
theorem dX5_receive_39 : decode cX5_receive 39 = .ok (.imul, 1) := dk_imul (by decide +kernel)
theorem dX5_receive_40 : decode cX5_receive 40 = .ok (.bipush 10, 2) := dk_bipush (by decide +kernel)
theorem dX5_receive_42 : decode cX5_receive 42 = .ok (.idiv, 1) := dk_idiv (by decide +kernel)
theorem dX5_receive_43 : decode cX5_receive 43 = .ok (.isub, 1) := dk_isub (by decide +kernel)
theorem dX5_receive_44 : decode cX5_receive 44 = .ok (.istore_n 3, 1) := dk_istore_n_3 (by decide +kernel)
theorem dX5_receive_45 : decode cX5_receive 45 = .ok (.aload_n 0, 1) := dk_aload_n_0 (by decide +kernel)
theorem dX5_receive_46 : decode cX5_receive 46 = .ok (.iload_n 3, 1) := dk_iload_n_3 (by decide +kernel)
theorem dX5_receive_47 : decode cX5_receive 47 = .ok (.ifCond .le 23, 3) := dk_ifCond_le (by decide +kernel)
theorem dX5_receive_50 : decode cX5_receive 50 = .ok (.iload_n 3, 1) := dk_iload_n_3 (by decide +kernel)
theorem dX5_receive_51 : decode cX5_receive 51 = .ok (.aload_n 0, 1) := dk_aload_n_0 (by decide +kernel)
theorem dX5_receive_52 : decode cX5_receive 52 = .ok (.getfield 29, 3) := dk_getfield (by decide +kernel)
theorem dX5_receive_55 : decode cX5_receive 55 = .ok (.iadd, 1) := dk_iadd (by decide +kernel)
theorem dX5_receive_56 : decode cX5_receive 56 = .ok (.aload_n 0, 1) := dk_aload_n_0 (by decide +kernel)
theorem dX5_receive_57 : decode cX5_receive 57 = .ok (.getfield 32, 3) := dk_getfield (by decide +kernel)
theorem dX5_receive_60 : decode cX5_receive 60 = .ok (.iadd, 1) := dk_iadd (by decide +kernel)
theorem dX5_receive_61 : decode cX5_receive 61 = .ok (.sipush 999, 3) := dk_sipush (by decide +kernel)
theorem dX5_receive_64 : decode cX5_receive 64 = .ok (.invokestatic 35, 3) := dk_invokestatic (by decide +kernel)
theorem dX5_receive_67 : decode cX5_receive 67 = .ok (.goto 4, 3) := dk_goto (by decide +kernel)
theorem dX5_receive_70 : decode cX5_receive 70 = .ok (.iconst 0, 1) := dk_iconst_0 (by decide +kernel)
theorem dX5_receive_71 : decode cX5_receive 71 = .ok (.putfield 22, 3) := dk_putfield (by decide +kernel)
theorem dX5_receive_74 : decode cX5_receive 74 = .ok (.return_, 1) := dk_return_ (by decide +kernel)
theorem dX3_carry_0 : decode cX3_carry 0 = .ok (.iconst 0, 1) := dk_iconst_0 (by decide +kernel)
theorem dX3_carry_1 : decode cX3_carry 1 = .ok (.istore 4, 2) := dk_istore (by decide +kernel)
theorem dX3_carry_3 : decode cX3_carry 3 = .ok (.iload 4, 2) := dk_iload (by decide +kernel)
theorem dX3_carry_5 : decode cX3_carry 5 = .ok (.aload_n 0, 1) := dk_aload_n_0 (by decide +kernel)
theorem dX3_carry_6 : decode cX3_carry 6 = .ok (.getfield 12, 3) := dk_getfield (by decide +kernel)
theorem dX3_carry_9 : decode cX3_carry 9 = .ok (.invokevirtual 44, 3) := dk_invokevirtual (by decide +kernel)
theorem dX3_carry_12 : decode cX3_carry 12 = .ok (.if_icmp .ge 25, 3) := dk_if_icmp_ge (by decide +kernel)
theorem dX3_carry_15 : decode cX3_carry 15 = .ok (.aload_n 0, 1) := dk_aload_n_0 (by decide +kernel)
theorem dX3_carry_16 : decode cX3_carry 16 = .ok (.getfield 12, 3) := dk_getfield (by decide +kernel)
theorem dX3_carry_19 : decode cX3_carry 19 = .ok (.iload 4, 2) := dk_iload (by decide +kernel)
theorem dX3_carry_21 : decode cX3_carry 21 = .ok (.invokevirtual 48, 3) := dk_invokevirtual (by decide +kernel)
theorem dX3_carry_24 : decode cX3_carry 24 = .ok (.checkcast 35, 3) := dk_checkcast (by decide +kernel)
theorem dX3_carry_27 : decode cX3_carry 27 = .ok (.iconst 0, 1) := dk_iconst_0 (by decide +kernel)
theorem dX3_carry_28 : decode cX3_carry 28 = .ok (.putfield 54, 3) := dk_putfield (by decide +kernel)
theorem dX3_carry_31 : decode cX3_carry 31 = .ok (.iinc 4 1, 3) := dk_iinc (by decide +kernel)
theorem dX3_carry_34 : decode cX3_carry 34 = .ok (.goto (-31), 3) := dk_goto (by decide +kernel)
theorem dX3_carry_37 : decode cX3_carry 37 = .ok (.iconst 0, 1) := dk_iconst_0 (by decide +kernel)
theorem dX3_carry_38 : decode cX3_carry 38 = .ok (.istore 4, 2) := dk_istore (by decide +kernel)
theorem dX3_carry_40 : decode cX3_carry 40 = .ok (.iload 4, 2) := dk_iload (by decide +kernel)
theorem dX3_carry_42 : decode cX3_carry 42 = .ok (.aload_n 0, 1) := dk_aload_n_0 (by decide +kernel)
theorem dX3_carry_43 : decode cX3_carry 43 = .ok (.getfield 18, 3) := dk_getfield (by decide +kernel)
theorem dX3_carry_46 : decode cX3_carry 46 = .ok (.invokevirtual 44, 3) := dk_invokevirtual (by decide +kernel)
theorem dX3_carry_49 : decode cX3_carry 49 = .ok (.if_icmp .ge 50, 3) := dk_if_icmp_ge (by decide +kernel)
theorem dX3_carry_52 : decode cX3_carry 52 = .ok (.aload_n 0, 1) := dk_aload_n_0 (by decide +kernel)
theorem dX3_carry_53 : decode cX3_carry 53 = .ok (.getfield 18, 3) := dk_getfield (by decide +kernel)
theorem dX3_carry_56 : decode cX3_carry 56 = .ok (.iload 4, 2) := dk_iload (by decide +kernel)
theorem dX3_carry_58 : decode cX3_carry 58 = .ok (.invokevirtual 48, 3) := dk_invokevirtual (by decide +kernel)
theorem dX3_carry_61 : decode cX3_carry 61 = .ok (.checkcast 58, 3) := dk_checkcast (by decide +kernel)
theorem dX3_carry_64 : decode cX3_carry 64 = .ok (.astore 5, 2) := dk_astore (by decide +kernel)
theorem dX3_carry_66 : decode cX3_carry 66 = .ok (.aload 5, 2) := dk_aload (by decide +kernel)
theorem dX3_carry_68 : decode cX3_carry 68 = .ok (.getfield 60, 3) := dk_getfield (by decide +kernel)
theorem dX3_carry_71 : decode cX3_carry 71 = .ok (.iload_n 3, 1) := dk_iload_n_3 (by decide +kernel)
theorem dX3_carry_72 : decode cX3_carry 72 = .ok (.if_icmp .gt 21, 3) := dk_if_icmp_gt (by decide +kernel)
theorem dX3_carry_75 : decode cX3_carry 75 = .ok (.iload_n 3, 1) := dk_iload_n_3 (by decide +kernel)
theorem dX3_carry_76 : decode cX3_carry 76 = .ok (.aload 5, 2) := dk_aload (by decide +kernel)
theorem dX3_carry_78 : decode cX3_carry 78 = .ok (.getfield 63, 3) := dk_getfield (by decide +kernel)
theorem dX3_carry_81 : decode cX3_carry 81 = .ok (.if_icmp .gt 12, 3) := dk_if_icmp_gt (by decide +kernel)
theorem dX3_carry_84 : decode cX3_carry 84 = .ok (.aload 5, 2) := dk_aload (by decide +kernel)
theorem dX3_carry_86 : decode cX3_carry 86 = .ok (.getfield 66, 3) := dk_getfield (by decide +kernel)
theorem dX3_carry_89 : decode cX3_carry 89 = .ok (.iconst 1, 1) := dk_iconst_1 (by decide +kernel)
theorem dX3_carry_90 : decode cX3_carry 90 = .ok (.putfield 54, 3) := dk_putfield (by decide +kernel)
theorem dX3_carry_93 : decode cX3_carry 93 = .ok (.iinc 4 1, 3) := dk_iinc (by decide +kernel)
theorem dX3_carry_96 : decode cX3_carry 96 = .ok (.goto (-56), 3) := dk_goto (by decide +kernel)
theorem dX3_carry_99 : decode cX3_carry 99 = .ok (.iconst 0, 1) := dk_iconst_0 (by decide +kernel)
theorem dX3_carry_100 : decode cX3_carry 100 = .ok (.istore 4, 2) := dk_istore (by decide +kernel)
theorem dX3_carry_102 : decode cX3_carry 102 = .ok (.iload 4, 2) := dk_iload (by decide +kernel)
theorem dX3_carry_104 : decode cX3_carry 104 = .ok (.aload_n 0, 1) := dk_aload_n_0 (by decide +kernel)
theorem dX3_carry_105 : decode cX3_carry 105 = .ok (.getfield 12, 3) := dk_getfield (by decide +kernel)
theorem dX3_carry_108 : decode cX3_carry 108 = .ok (.invokevirtual 44, 3) := dk_invokevirtual (by decide +kernel)
theorem dX3_carry_111 : decode cX3_carry 111 = .ok (.if_icmp .ge 26, 3) := dk_if_icmp_ge (by decide +kernel)
theorem dX3_carry_114 : decode cX3_carry 114 = .ok (.aload_n 0, 1) := dk_aload_n_0 (by decide +kernel)
theorem dX3_carry_115 : decode cX3_carry 115 = .ok (.getfield 12, 3) := dk_getfield (by decide +kernel)
theorem dX3_carry_118 : decode cX3_carry 118 = .ok (.iload 4, 2) := dk_iload (by decide +kernel)
theorem dX3_carry_120 : decode cX3_carry 120 = .ok (.invokevirtual 48, 3) := dk_invokevirtual (by decide +kernel)
theorem dX3_carry_123 : decode cX3_carry 123 = .ok (.checkcast 35, 3) := dk_checkcast (by decide +kernel)
theorem dX3_carry_126 : decode cX3_carry 126 = .ok (.iload_n 1, 1) := dk_iload_n_1 (by decide +kernel)
theorem dX3_carry_127 : decode cX3_carry 127 = .ok (.iload_n 2, 1) := dk_iload_n_2 (by decide +kernel)
theorem dX3_carry_128 : decode cX3_carry 128 = .ok (.invokevirtual 70, 3) := dk_invokevirtual (by decide +kernel)
theorem dX3_carry_131 : decode cX3_carry 131 = .ok (.iinc 4 1, 3) := dk_iinc (by decide +kernel)
theorem dX3_carry_134 : decode cX3_carry 134 = .ok (.goto (-32), 3) := dk_goto (by decide +kernel)
theorem dX3_carry_137 : decode cX3_carry 137 = .ok (.return_, 1) := dk_return_ (by decide +kernel)
theorem dX3_howHeard_0 : decode cX3_howHeard 0 = .ok (.aload_n 2, 1) := dk_aload_n_2 (by decide +kernel)
theorem dX3_howHeard_1 : decode cX3_howHeard 1 = .ok (.getfield 74, 3) := dk_getfield (by decide +kernel)
theorem dX3_howHeard_4 : decode cX3_howHeard 4 = .ok (.bipush 6, 2) := dk_bipush (by decide +kernel)
theorem dX3_howHeard_6 : decode cX3_howHeard 6 = .ok (.if_icmp .eq 14, 3) := dk_if_icmp_eq (by decide +kernel)
theorem dX3_howHeard_9 : decode cX3_howHeard 9 = .ok (.aload_n 1, 1) := dk_aload_n_1 (by decide +kernel)
theorem dX3_howHeard_10 : decode cX3_howHeard 10 = .ok (.aload_n 0, 1) := dk_aload_n_0 (by decide +kernel)
theorem dX3_howHeard_11 : decode cX3_howHeard 11 = .ok (.getfield 27, 3) := dk_getfield (by decide +kernel)
theorem dX3_howHeard_14 : decode cX3_howHeard 14 = .ok (.invokevirtual 79, 3) := dk_invokevirtual (by decide +kernel)
theorem dX3_howHeard_17 : decode cX3_howHeard 17 = .ok (.ifCond .ne 5, 3) := dk_ifCond_ne (by decide +kernel)
theorem dX3_howHeard_20 : decode cX3_howHeard 20 = .ok (.iconst 0, 1) := dk_iconst_0 (by decide +kernel)
theorem dX3_howHeard_21 : decode cX3_howHeard 21 = .ok (.ireturn, 1) := dk_ireturn (by decide +kernel)
theorem dX3_howHeard_22 : decode cX3_howHeard 22 = .ok (.iconst 1, 1) := dk_iconst_1 (by decide +kernel)
theorem dX3_howHeard_23 : decode cX3_howHeard 23 = .ok (.iload_n 3, 1) := dk_iload_n_3 (by decide +kernel)
theorem dX3_howHeard_24 : decode cX3_howHeard 24 = .ok (.invokestatic 83, 3) := dk_invokestatic (by decide +kernel)
theorem dX3_howHeard_27 : decode cX3_howHeard 27 = .ok (.ishl, 1) := dk_ishl (by decide +kernel)
theorem dX3_howHeard_28 : decode cX3_howHeard 28 = .ok (.istore 4, 2) := dk_istore (by decide +kernel)
theorem dX3_howHeard_30 : decode cX3_howHeard 30 = .ok (.aload_n 2, 1) := dk_aload_n_2 (by decide +kernel)
theorem dX3_howHeard_31 : decode cX3_howHeard 31 = .ok (.getfield 74, 3) := dk_getfield (by decide +kernel)
theorem dX3_howHeard_34 : decode cX3_howHeard 34 = .ok (.iconst 2, 1) := dk_iconst_2 (by decide +kernel)
theorem dX3_howHeard_35 : decode cX3_howHeard 35 = .ok (.if_icmp .eq 13, 3) := dk_if_icmp_eq (by decide +kernel)
theorem dX3_howHeard_38 : decode cX3_howHeard 38 = .ok (.aload_n 1, 1) := dk_aload_n_1 (by decide +kernel)
theorem dX3_howHeard_39 : decode cX3_howHeard 39 = .ok (.getfield 87, 3) := dk_getfield (by decide +kernel)
theorem dX3_howHeard_42 : decode cX3_howHeard 42 = .ok (.iload 4, 2) := dk_iload (by decide +kernel)
theorem dX3_howHeard_44 : decode cX3_howHeard 44 = .ok (.iand, 1) := dk_iand (by decide +kernel)
theorem dX3_howHeard_45 : decode cX3_howHeard 45 = .ok (.ifCond .eq 5, 3) := dk_ifCond_eq (by decide +kernel)
theorem dX3_howHeard_48 : decode cX3_howHeard 48 = .ok (.iconst 2, 1) := dk_iconst_2 (by decide +kernel)
theorem dX3_howHeard_49 : decode cX3_howHeard 49 = .ok (.ireturn, 1) := dk_ireturn (by decide +kernel)
theorem dX3_howHeard_50 : decode cX3_howHeard 50 = .ok (.aload_n 1, 1) := dk_aload_n_1 (by decide +kernel)
theorem dX3_howHeard_51 : decode cX3_howHeard 51 = .ok (.getfield 90, 3) := dk_getfield (by decide +kernel)
theorem dX3_howHeard_54 : decode cX3_howHeard 54 = .ok (.iload 4, 2) := dk_iload (by decide +kernel)
theorem dX3_howHeard_56 : decode cX3_howHeard 56 = .ok (.iand, 1) := dk_iand (by decide +kernel)
theorem dX3_howHeard_57 : decode cX3_howHeard 57 = .ok (.ifCond .eq 7, 3) := dk_ifCond_eq (by decide +kernel)
theorem dX3_howHeard_60 : decode cX3_howHeard 60 = .ok (.iconst 1, 1) := dk_iconst_1 (by decide +kernel)
theorem dX3_howHeard_61 : decode cX3_howHeard 61 = .ok (.goto 4, 3) := dk_goto (by decide +kernel)
theorem dX3_howHeard_64 : decode cX3_howHeard 64 = .ok (.iconst 0, 1) := dk_iconst_0 (by decide +kernel)
theorem dX3_howHeard_65 : decode cX3_howHeard 65 = .ok (.ireturn, 1) := dk_ireturn (by decide +kernel)
theorem dX3_tally_0 : decode cX3_tally 0 = .ok (.aload_n 0, 1) := dk_aload_n_0 (by decide +kernel)
theorem dX3_tally_1 : decode cX3_tally 1 = .ok (.iconst 0, 1) := dk_iconst_0 (by decide +kernel)
theorem dX3_tally_2 : decode cX3_tally 2 = .ok (.putfield 93, 3) := dk_putfield (by decide +kernel)
theorem dX3_tally_5 : decode cX3_tally 5 = .ok (.aload_n 0, 1) := dk_aload_n_0 (by decide +kernel)
theorem dX3_tally_6 : decode cX3_tally 6 = .ok (.iconst 0, 1) := dk_iconst_0 (by decide +kernel)
theorem dX3_tally_7 : decode cX3_tally 7 = .ok (.putfield 96, 3) := dk_putfield (by decide +kernel)
theorem dX3_tally_10 : decode cX3_tally 10 = .ok (.aload_n 1, 1) := dk_aload_n_1 (by decide +kernel)
theorem dX3_tally_11 : decode cX3_tally 11 = .ok (.getfield 74, 3) := dk_getfield (by decide +kernel)
theorem dX3_tally_14 : decode cX3_tally 14 = .ok (.bipush 6, 2) := dk_bipush (by decide +kernel)
theorem dX3_tally_16 : decode cX3_tally 16 = .ok (.if_icmp .ne 4, 3) := dk_if_icmp_ne (by decide +kernel)
theorem dX3_tally_19 : decode cX3_tally 19 = .ok (.return_, 1) := dk_return_ (by decide +kernel)
theorem dX3_tally_20 : decode cX3_tally 20 = .ok (.aload_n 0, 1) := dk_aload_n_0 (by decide +kernel)
theorem dX3_tally_21 : decode cX3_tally 21 = .ok (.aload_n 1, 1) := dk_aload_n_1 (by decide +kernel)
theorem dX3_tally_22 : decode cX3_tally 22 = .ok (.getfield 99, 3) := dk_getfield (by decide +kernel)
theorem dX3_tally_25 : decode cX3_tally 25 = .ok (.aload_n 1, 1) := dk_aload_n_1 (by decide +kernel)
theorem dX3_tally_26 : decode cX3_tally 26 = .ok (.getfield 102, 3) := dk_getfield (by decide +kernel)
theorem dX3_tally_29 : decode cX3_tally 29 = .ok (.iload_n 2, 1) := dk_iload_n_2 (by decide +kernel)
theorem dX3_tally_30 : decode cX3_tally 30 = .ok (.invokevirtual 105, 3) := dk_invokevirtual (by decide +kernel)
theorem dX3_tally_33 : decode cX3_tally 33 = .ok (.iconst 0, 1) := dk_iconst_0 (by decide +kernel)
theorem dX3_tally_34 : decode cX3_tally 34 = .ok (.istore_n 3, 1) := dk_istore_n_3 (by decide +kernel)
theorem dX3_tally_35 : decode cX3_tally 35 = .ok (.iload_n 3, 1) := dk_iload_n_3 (by decide +kernel)
theorem dX3_tally_36 : decode cX3_tally 36 = .ok (.aload_n 0, 1) := dk_aload_n_0 (by decide +kernel)
theorem dX3_tally_37 : decode cX3_tally 37 = .ok (.getfield 21, 3) := dk_getfield (by decide +kernel)
theorem dX3_tally_40 : decode cX3_tally 40 = .ok (.invokevirtual 44, 3) := dk_invokevirtual (by decide +kernel)
theorem dX3_tally_43 : decode cX3_tally 43 = .ok (.if_icmp .ge 67, 3) := dk_if_icmp_ge (by decide +kernel)
theorem dX3_tally_46 : decode cX3_tally 46 = .ok (.aload_n 0, 1) := dk_aload_n_0 (by decide +kernel)
theorem dX3_tally_47 : decode cX3_tally 47 = .ok (.aload_n 0, 1) := dk_aload_n_0 (by decide +kernel)
theorem dX3_tally_48 : decode cX3_tally 48 = .ok (.getfield 21, 3) := dk_getfield (by decide +kernel)
theorem dX3_tally_51 : decode cX3_tally 51 = .ok (.iload_n 3, 1) := dk_iload_n_3 (by decide +kernel)
theorem dX3_tally_52 : decode cX3_tally 52 = .ok (.invokevirtual 48, 3) := dk_invokevirtual (by decide +kernel)
theorem dX3_tally_55 : decode cX3_tally 55 = .ok (.checkcast 52, 3) := dk_checkcast (by decide +kernel)
theorem dX3_tally_58 : decode cX3_tally 58 = .ok (.aload_n 1, 1) := dk_aload_n_1 (by decide +kernel)
theorem dX3_tally_59 : decode cX3_tally 59 = .ok (.iload_n 2, 1) := dk_iload_n_2 (by decide +kernel)
theorem dX3_tally_60 : decode cX3_tally 60 = .ok (.invokevirtual 109, 3) := dk_invokevirtual (by decide +kernel)
theorem dX3_tally_63 : decode cX3_tally 63 = .ok (.istore 4, 2) := dk_istore (by decide +kernel)
theorem dX3_tally_65 : decode cX3_tally 65 = .ok (.aload_n 0, 1) := dk_aload_n_0 (by decide +kernel)
theorem dX3_tally_66 : decode cX3_tally 66 = .ok (.dup, 1) := dk_dup (by decide +kernel)
theorem dX3_tally_67 : decode cX3_tally 67 = .ok (.getfield 93, 3) := dk_getfield (by decide +kernel)
theorem dX3_tally_70 : decode cX3_tally 70 = .ok (.iload 4, 2) := dk_iload (by decide +kernel)
theorem dX3_tally_72 : decode cX3_tally 72 = .ok (.iconst 2, 1) := dk_iconst_2 (by decide +kernel)
theorem dX3_tally_73 : decode cX3_tally 73 = .ok (.if_icmp .ne 7, 3) := dk_if_icmp_ne (by decide +kernel)
theorem dX3_tally_76 : decode cX3_tally 76 = .ok (.iconst 1, 1) := dk_iconst_1 (by decide +kernel)
theorem dX3_tally_77 : decode cX3_tally 77 = .ok (.goto 4, 3) := dk_goto (by decide +kernel)
theorem dX3_tally_80 : decode cX3_tally 80 = .ok (.iconst 0, 1) := dk_iconst_0 (by decide +kernel)
theorem dX3_tally_81 : decode cX3_tally 81 = .ok (.iadd, 1) := dk_iadd (by decide +kernel)
theorem dX3_tally_82 : decode cX3_tally 82 = .ok (.putfield 93, 3) := dk_putfield (by decide +kernel)
theorem dX3_tally_85 : decode cX3_tally 85 = .ok (.aload_n 0, 1) := dk_aload_n_0 (by decide +kernel)
theorem dX3_tally_86 : decode cX3_tally 86 = .ok (.dup, 1) := dk_dup (by decide +kernel)
theorem dX3_tally_87 : decode cX3_tally 87 = .ok (.getfield 96, 3) := dk_getfield (by decide +kernel)
theorem dX3_tally_90 : decode cX3_tally 90 = .ok (.iload 4, 2) := dk_iload (by decide +kernel)
theorem dX3_tally_92 : decode cX3_tally 92 = .ok (.ifCond .le 7, 3) := dk_ifCond_le (by decide +kernel)
theorem dX3_tally_95 : decode cX3_tally 95 = .ok (.iconst 1, 1) := dk_iconst_1 (by decide +kernel)
theorem dX3_tally_96 : decode cX3_tally 96 = .ok (.goto 4, 3) := dk_goto (by decide +kernel)
theorem dX3_tally_99 : decode cX3_tally 99 = .ok (.iconst 0, 1) := dk_iconst_0 (by decide +kernel)
theorem dX3_tally_100 : decode cX3_tally 100 = .ok (.iadd, 1) := dk_iadd (by decide +kernel)
theorem dX3_tally_101 : decode cX3_tally 101 = .ok (.putfield 96, 3) := dk_putfield (by decide +kernel)
theorem dX3_tally_104 : decode cX3_tally 104 = .ok (.iinc 3 1, 3) := dk_iinc (by decide +kernel)
theorem dX3_tally_107 : decode cX3_tally 107 = .ok (.goto (-72), 3) := dk_goto (by decide +kernel)
theorem dX3_tally_110 : decode cX3_tally 110 = .ok (.return_, 1) := dk_return_ (by decide +kernel)
theorem dX3_complaints_0 : decode cX3_complaints 0 = .ok (.iconst 0, 1) := dk_iconst_0 (by decide +kernel)
theorem dX3_complaints_1 : decode cX3_complaints 1 = .ok (.istore_n 1, 1) := dk_istore_n_1 (by decide +kernel)
theorem dX3_complaints_2 : decode cX3_complaints 2 = .ok (.iconst 0, 1) := dk_iconst_0 (by decide +kernel)
theorem dX3_complaints_3 : decode cX3_complaints 3 = .ok (.istore_n 2, 1) := dk_istore_n_2 (by decide +kernel)
theorem dX3_complaints_4 : decode cX3_complaints 4 = .ok (.iload_n 2, 1) := dk_iload_n_2 (by decide +kernel)
theorem dX3_complaints_5 : decode cX3_complaints 5 = .ok (.aload_n 0, 1) := dk_aload_n_0 (by decide +kernel)
theorem dX3_complaints_6 : decode cX3_complaints 6 = .ok (.getfield 21, 3) := dk_getfield (by decide +kernel)
theorem dX3_complaints_9 : decode cX3_complaints 9 = .ok (.invokevirtual 44, 3) := dk_invokevirtual (by decide +kernel)
theorem dX3_complaints_12 : decode cX3_complaints 12 = .ok (.if_icmp .ge 34, 3) := dk_if_icmp_ge (by decide +kernel)
theorem dX3_complaints_15 : decode cX3_complaints 15 = .ok (.iload_n 1, 1) := dk_iload_n_1 (by decide +kernel)
theorem dX3_complaints_16 : decode cX3_complaints 16 = .ok (.aload_n 0, 1) := dk_aload_n_0 (by decide +kernel)
theorem dX3_complaints_17 : decode cX3_complaints 17 = .ok (.getfield 21, 3) := dk_getfield (by decide +kernel)
theorem dX3_complaints_20 : decode cX3_complaints 20 = .ok (.iload_n 2, 1) := dk_iload_n_2 (by decide +kernel)
theorem dX3_complaints_21 : decode cX3_complaints 21 = .ok (.invokevirtual 48, 3) := dk_invokevirtual (by decide +kernel)
theorem dX3_complaints_24 : decode cX3_complaints 24 = .ok (.checkcast 52, 3) := dk_checkcast (by decide +kernel)
theorem dX3_complaints_27 : decode cX3_complaints 27 = .ok (.getfield 113, 3) := dk_getfield (by decide +kernel)
theorem dX3_complaints_30 : decode cX3_complaints 30 = .ok (.ifCond .eq 7, 3) := dk_ifCond_eq (by decide +kernel)
theorem dX3_complaints_33 : decode cX3_complaints 33 = .ok (.iconst 1, 1) := dk_iconst_1 (by decide +kernel)
theorem dX3_complaints_34 : decode cX3_complaints 34 = .ok (.goto 4, 3) := dk_goto (by decide +kernel)
theorem dX3_complaints_37 : decode cX3_complaints 37 = .ok (.iconst 0, 1) := dk_iconst_0 (by decide +kernel)
theorem dX3_complaints_38 : decode cX3_complaints 38 = .ok (.iadd, 1) := dk_iadd (by decide +kernel)
theorem dX3_complaints_39 : decode cX3_complaints 39 = .ok (.istore_n 1, 1) := dk_istore_n_1 (by decide +kernel)
theorem dX3_complaints_40 : decode cX3_complaints 40 = .ok (.iinc 2 1, 3) := dk_iinc (by decide +kernel)
theorem dX3_complaints_43 : decode cX3_complaints 43 = .ok (.goto (-39), 3) := dk_goto (by decide +kernel)
theorem dX3_complaints_46 : decode cX3_complaints 46 = .ok (.iload_n 1, 1) := dk_iload_n_1 (by decide +kernel)
theorem dX3_complaints_47 : decode cX3_complaints 47 = .ok (.ireturn, 1) := dk_ireturn (by decide +kernel)
theorem dX2_spanOf_0 : decode cX2_spanOf 0 = .ok (.iload_n 1, 1) := dk_iload_n_1 (by decide +kernel)
theorem dX2_spanOf_1 : decode cX2_spanOf 1 = .ok (.ifCond .lt 21, 3) := dk_ifCond_lt (by decide +kernel)
theorem dX2_spanOf_4 : decode cX2_spanOf 4 = .ok (.iload_n 1, 1) := dk_iload_n_1 (by decide +kernel)
theorem dX2_spanOf_5 : decode cX2_spanOf 5 = .ok (.aload_n 0, 1) := dk_aload_n_0 (by decide +kernel)
theorem dX2_spanOf_6 : decode cX2_spanOf 6 = .ok (.getfield 28, 3) := dk_getfield (by decide +kernel)
theorem dX2_spanOf_9 : decode cX2_spanOf 9 = .ok (.if_icmp .ge 13, 3) := dk_if_icmp_ge (by decide +kernel)
theorem dX2_spanOf_12 : decode cX2_spanOf 12 = .ok (.aload_n 0, 1) := dk_aload_n_0 (by decide +kernel)
theorem dX2_spanOf_13 : decode cX2_spanOf 13 = .ok (.getfield 12, 3) := dk_getfield (by decide +kernel)
theorem dX2_spanOf_16 : decode cX2_spanOf 16 = .ok (.invokevirtual 43, 3) := dk_invokevirtual (by decide +kernel)
theorem dX2_spanOf_19 : decode cX2_spanOf 19 = .ok (.ifCond .eq 5, 3) := dk_ifCond_eq (by decide +kernel)
theorem dX2_spanOf_22 : decode cX2_spanOf 22 = .ok (.aconst_null, 1) := dk_aconst_null (by decide +kernel)
theorem dX2_spanOf_23 : decode cX2_spanOf 23 = .ok (.areturn, 1) := dk_areturn (by decide +kernel)
theorem dX2_spanOf_24 : decode cX2_spanOf 24 = .ok (.iconst 0, 1) := dk_iconst_0 (by decide +kernel)
theorem dX2_spanOf_25 : decode cX2_spanOf 25 = .ok (.istore_n 2, 1) := dk_istore_n_2 (by decide +kernel)
theorem dX2_spanOf_26 : decode cX2_spanOf 26 = .ok (.aload_n 0, 1) := dk_aload_n_0 (by decide +kernel)
theorem dX2_spanOf_27 : decode cX2_spanOf 27 = .ok (.getfield 12, 3) := dk_getfield (by decide +kernel)
theorem dX2_spanOf_30 : decode cX2_spanOf 30 = .ok (.invokevirtual 47, 3) := dk_invokevirtual (by decide +kernel)
theorem dX2_spanOf_33 : decode cX2_spanOf 33 = .ok (.iconst 1, 1) := dk_iconst_1 (by decide +kernel)
theorem dX2_spanOf_34 : decode cX2_spanOf 34 = .ok (.isub, 1) := dk_isub (by decide +kernel)
theorem dX2_spanOf_35 : decode cX2_spanOf 35 = .ok (.istore_n 3, 1) := dk_istore_n_3 (by decide +kernel)
theorem dX2_spanOf_36 : decode cX2_spanOf 36 = .ok (.iconst 0, 1) := dk_iconst_0 (by decide +kernel)
theorem dX2_spanOf_37 : decode cX2_spanOf 37 = .ok (.istore 4, 2) := dk_istore (by decide +kernel)
theorem dX2_spanOf_39 : decode cX2_spanOf 39 = .ok (.iload 4, 2) := dk_iload (by decide +kernel)
theorem dX2_spanOf_41 : decode cX2_spanOf 41 = .ok (.bipush 32, 2) := dk_bipush (by decide +kernel)
theorem dX2_spanOf_43 : decode cX2_spanOf 43 = .ok (.if_icmp .ge 53, 3) := dk_if_icmp_ge (by decide +kernel)
theorem dX2_spanOf_46 : decode cX2_spanOf 46 = .ok (.iload_n 2, 1) := dk_iload_n_2 (by decide +kernel)
theorem dX2_spanOf_47 : decode cX2_spanOf 47 = .ok (.iload_n 3, 1) := dk_iload_n_3 (by decide +kernel)
theorem dX2_spanOf_48 : decode cX2_spanOf 48 = .ok (.if_icmp .ge 48, 3) := dk_if_icmp_ge (by decide +kernel)
theorem dX2_spanOf_51 : decode cX2_spanOf 51 = .ok (.iload_n 2, 1) := dk_iload_n_2 (by decide +kernel)
theorem dX2_spanOf_52 : decode cX2_spanOf 52 = .ok (.iload_n 3, 1) := dk_iload_n_3 (by decide +kernel)
theorem dX2_spanOf_53 : decode cX2_spanOf 53 = .ok (.iadd, 1) := dk_iadd (by decide +kernel)
theorem dX2_spanOf_54 : decode cX2_spanOf 54 = .ok (.iconst 1, 1) := dk_iconst_1 (by decide +kernel)
theorem dX2_spanOf_55 : decode cX2_spanOf 55 = .ok (.iadd, 1) := dk_iadd (by decide +kernel)
theorem dX2_spanOf_56 : decode cX2_spanOf 56 = .ok (.iconst 2, 1) := dk_iconst_2 (by decide +kernel)
theorem dX2_spanOf_57 : decode cX2_spanOf 57 = .ok (.idiv, 1) := dk_idiv (by decide +kernel)
theorem dX2_spanOf_58 : decode cX2_spanOf 58 = .ok (.istore 5, 2) := dk_istore (by decide +kernel)
theorem dX2_spanOf_60 : decode cX2_spanOf 60 = .ok (.aload_n 0, 1) := dk_aload_n_0 (by decide +kernel)
theorem dX2_spanOf_61 : decode cX2_spanOf 61 = .ok (.getfield 12, 3) := dk_getfield (by decide +kernel)
theorem dX2_spanOf_64 : decode cX2_spanOf 64 = .ok (.iload 5, 2) := dk_iload (by decide +kernel)
theorem dX2_spanOf_66 : decode cX2_spanOf 66 = .ok (.invokevirtual 51, 3) := dk_invokevirtual (by decide +kernel)
theorem dX2_spanOf_69 : decode cX2_spanOf 69 = .ok (.checkcast 23, 3) := dk_checkcast (by decide +kernel)
theorem dX2_spanOf_72 : decode cX2_spanOf 72 = .ok (.getfield 37, 3) := dk_getfield (by decide +kernel)
theorem dX2_spanOf_75 : decode cX2_spanOf 75 = .ok (.iload_n 1, 1) := dk_iload_n_1 (by decide +kernel)
theorem dX2_spanOf_76 : decode cX2_spanOf 76 = .ok (.if_icmp .gt 9, 3) := dk_if_icmp_gt (by decide +kernel)
theorem dX2_spanOf_79 : decode cX2_spanOf 79 = .ok (.iload 5, 2) := dk_iload (by decide +kernel)
theorem dX2_spanOf_81 : decode cX2_spanOf 81 = .ok (.istore_n 2, 1) := dk_istore_n_2 (by decide +kernel)
theorem dX2_spanOf_82 : decode cX2_spanOf 82 = .ok (.goto 8, 3) := dk_goto (by decide +kernel)
theorem dX2_spanOf_85 : decode cX2_spanOf 85 = .ok (.iload 5, 2) := dk_iload (by decide +kernel)
theorem dX2_spanOf_87 : decode cX2_spanOf 87 = .ok (.iconst 1, 1) := dk_iconst_1 (by decide +kernel)
theorem dX2_spanOf_88 : decode cX2_spanOf 88 = .ok (.isub, 1) := dk_isub (by decide +kernel)
theorem dX2_spanOf_89 : decode cX2_spanOf 89 = .ok (.istore_n 3, 1) := dk_istore_n_3 (by decide +kernel)
theorem dX2_spanOf_90 : decode cX2_spanOf 90 = .ok (.iinc 4 1, 3) := dk_iinc (by decide +kernel)
theorem dX2_spanOf_93 : decode cX2_spanOf 93 = .ok (.goto (-54), 3) := dk_goto (by decide +kernel)
theorem dX2_spanOf_96 : decode cX2_spanOf 96 = .ok (.aload_n 0, 1) := dk_aload_n_0 (by decide +kernel)
theorem dX2_spanOf_97 : decode cX2_spanOf 97 = .ok (.getfield 12, 3) := dk_getfield (by decide +kernel)
theorem dX2_spanOf_100 : decode cX2_spanOf 100 = .ok (.iload_n 2, 1) := dk_iload_n_2 (by decide +kernel)
theorem dX2_spanOf_101 : decode cX2_spanOf 101 = .ok (.invokevirtual 51, 3) := dk_invokevirtual (by decide +kernel)
theorem dX2_spanOf_104 : decode cX2_spanOf 104 = .ok (.checkcast 23, 3) := dk_checkcast (by decide +kernel)
theorem dX2_spanOf_107 : decode cX2_spanOf 107 = .ok (.areturn, 1) := dk_areturn (by decide +kernel)
set_option maxHeartbeats 4000000 in
set_option maxRecDepth 100000 in
theorem c_X5_receive (l : Launch) (g : gG) (J : Nat → Nat → Int32) (L : Nat → Nat → Int64) (I : Nat → Nat → Nat → Int32) (P : Nat → Nat → Nat → Option Nat) (E : Nat → Option Nat) (N : Nat → Nat) (dy : List (Nat × Nat)) (sz : Nat) (o : Nat) (hmo : (6, o) ∈ dy) (a0 : Int32) (a1 : Int32) (hwf : WXF g J P E N dy) : Met l yX5_receive (WS yX5_receive cX5_receive 4 none) (RM (2) 0 0) (PC g [.ref o, .int a0, .int a1] ((J, L, I, P, E, N), sgX g ++ dy) sz) (va_Qv (fun (u : (Nat → Nat → Nat → Int32)) => True) (fun u t => at_ g (FR g ((J, L, I, P, E, N), sgX g ++ dy) sz) ((J, L, (hv I [] [(6, 7)] u), P, E, N), sgX g ++ dy) t) (FR g ((J, L, I, P, E, N), sgX g ++ dy) sz)) 0 0 (FR g ((J, L, I, P, E, N), sgX g ++ dy) sz) := by
  refine ent (by decide +kernel) (Nat.le_of_ble_eq_true rfl) ?_
  intro p e s m below meth c ls hsz C hW hr hlocks hname hl
  generalize FR g ((J, L, I, P, E, N), sgX g ++ dy) sz = A at C hW ⊢
  have hx := C.1.1
  have hb := C.1.2.1
  have hts := C.1.2.2.2.2
  have hl : lv_has ls 4 [(0, .ref o), (1, .int a0), (2, .int a1)] := hl
  obtain ⟨H, hH⟩ : ∃ H : Heap, H = s.heap := ⟨_, rfl⟩
  obtain ⟨locs, hlocs⟩ : ∃ q : List Loc, q = [] := ⟨_, rfl⟩
  have hW : WB g A s.heap H locs (J, L, I, P, E, N) (sgX g ++ dy) := by rw [hH, hlocs]; exact hW
  refine start_ hH hlocs ?_
  refine lv_aload_n hx hb dX5_receive_0 rfl (lv_at hl 0 rfl) ?_
  refine rg_6_0 C hW (List.mem_append_right _ hmo) tw_137 dX5_receive_1 ?_
  rcases hwf.2.2.1 o hmo with hb1 | ⟨b1, hb1, hbm1⟩
  · refine lv_asv (v' := .null) (by show va_rf (P 6 0 o) = _; rw [hb1]; rfl) ?_
    refine lv_ifnonnullN hx hb dX5_receive_4 ?_
    refine lv_aload_n hx hb dX5_receive_7 rfl (lv_at hl 0 rfl) ?_
    refine lv_iload_n hx hb dX5_receive_8 rfl (lv_at hl 1 rfl) ?_
    refine rp_6_7 C hW (List.mem_append_right _ hmo) tw_151 dX5_receive_9 (fun H locs hW => ?_)
    have hWr : WB g A s.heap H locs (J, L, (hv I [] [(6, 7)] (up3 I 6 7 o a0)), P, E, N) (sgX g ++ dy) := by
      rw [← ag_hvE (J := I) (R := []) (F := [(6, 7)]) (ag_up3 (Or.inr rfl) ag_rf)]
      exact hW
    exact end_v C hr hlocks (up3 I 6 7 o a0) hWr trivial dX5_receive_12
  · refine lv_asv (v' := .ref b1) (by show va_rf (P 6 0 o) = _; rw [hb1]; rfl) ?_
    refine lv_ifnonnull (tgt := 13) hx hb dX5_receive_4 (by decide) ?_
    refine lv_aload_n hx hb dX5_receive_13 rfl (lv_at hl 0 rfl) ?_
    refine rg_6_6 C hW (List.mem_append_right _ hmo) tw_148 dX5_receive_14 ?_
    refine lv_topi (fun x2 (e2 : x2 = I 6 6 o) => ?_)
    have t2 : x2.toInt = (I 6 6 o).toInt := by rw [e2]
    refine lv_if_eq (tgt := 24) hx hb dX5_receive_17 (by decide) (fun c3 => ?_) (fun c3 => ?_)
    · have c3 : x2.toInt = 0 := teq rfl kp0 c3
      refine lv_aload_n hx hb dX5_receive_24 rfl (lv_at hl 0 rfl) ?_
      refine rg_6_0 C hW (List.mem_append_right _ hmo) tw_137 dX5_receive_25 ?_
      refine lv_asv (v' := .ref b1) (by show va_rf (P 6 0 o) = _; rw [hb1]; rfl) ?_
      refine rg_6_7 C hW (List.mem_append_right _ hbm1) tw_151 dX5_receive_28 ?_
      refine lv_topi (fun x5 (e5 : x5 = I 6 7 b1) => ?_)
      have t5 : x5.toInt = (I 6 7 b1).toInt := by rw [e5]
      refine lv_aload_n hx hb dX5_receive_31 rfl (lv_at hl 0 rfl) ?_
      refine rg_6_1 C hW (List.mem_append_right _ hmo) tw_139 dX5_receive_32 ?_
      refine lv_topi (fun x6 (e6 : x6 = I 6 1 o) => ?_)
      have t6 : x6.toInt = (I 6 1 o).toInt := by rw [e6]
      refine lv_bipush (v := 10) hx hb dX5_receive_35 (by decide) ?_
      refine lv_iload_n hx hb dX5_receive_37 rfl (lv_at hl 2 rfl) ?_
      refine lv_iadd hx hb dX5_receive_38 ?_
      refine lv_topi (fun x7 (e7 : x7 = 10 + a1) => ?_)
      refine lv_imul hx hb dX5_receive_39 ?_
      refine lv_topi (fun x8 (e8 : x8 = x6 * x7) => ?_)
      refine lv_bipush (v := 10) hx hb dX5_receive_40 (by decide) ?_
      refine lv_idiv hx hb dX5_receive_42 (by decide) ?_
      refine lv_topi (fun x9 (e9 : x9 = x8 / 10) => ?_)
      have t9 : x9.toInt = x8.toInt.tdiv 10 := tdiv e9 rfl kp10 (by decide)
      refine lv_isub hx hb dX5_receive_43 ?_
      refine lv_topi (fun x10 (e10 : x10 = x5 - x9) => ?_)
      refine lv_istore_n (lv' := [(3, .int x10), (0, .ref o), (1, .int a0), (2, .int a1)]) hx hb dX5_receive_44 rfl hl (by decide) rfl (fun ls hl => ?_)
      refine lv_aload_n hx hb dX5_receive_45 rfl (lv_at hl 1 rfl) ?_
      refine lv_iload_n hx hb dX5_receive_46 rfl (lv_at hl 0 rfl) ?_
      refine lv_if_le (tgt := 70) hx hb dX5_receive_47 (by decide) (fun c11 => ?_) (fun c11 => ?_)
      · have c11 : x10.toInt ≤ 0 := tle rfl kp0 c11
        refine lv_iconst (v := 0) hx hb dX5_receive_70 (by decide) ?_
        refine rp_6_7 C hW (List.mem_append_right _ hmo) tw_151 dX5_receive_71 (fun H locs hW => ?_)
        have hWr : WB g A s.heap H locs (J, L, (hv I [] [(6, 7)] (up3 I 6 7 o 0)), P, E, N) (sgX g ++ dy) := by
          rw [← ag_hvE (J := I) (R := []) (F := [(6, 7)]) (ag_up3 (Or.inr rfl) ag_rf)]
          exact hW
        exact end_v C hr hlocks (up3 I 6 7 o 0) hWr trivial dX5_receive_74
      · have c11 : 0 < x10.toInt := tnle rfl kp0 c11
        refine lv_iload_n hx hb dX5_receive_50 rfl (lv_at hl 0 rfl) ?_
        refine lv_aload_n hx hb dX5_receive_51 rfl (lv_at hl 1 rfl) ?_
        refine rg_6_3 C hW (List.mem_append_right _ hmo) tw_142 dX5_receive_52 ?_
        refine lv_topi (fun x12 (e12 : x12 = I 6 3 o) => ?_)
        have t12 : x12.toInt = (I 6 3 o).toInt := by rw [e12]
        refine lv_iadd hx hb dX5_receive_55 ?_
        refine lv_topi (fun x13 (e13 : x13 = x10 + x12) => ?_)
        refine lv_aload_n hx hb dX5_receive_56 rfl (lv_at hl 1 rfl) ?_
        refine rg_6_5 C hW (List.mem_append_right _ hmo) tw_146 dX5_receive_57 ?_
        refine lv_topi (fun x14 (e14 : x14 = I 6 5 o) => ?_)
        have t14 : x14.toInt = (I 6 5 o).toInt := by rw [e14]
        refine lv_iadd hx hb dX5_receive_60 ?_
        refine lv_topi (fun x15 (e15 : x15 = x13 + x14) => ?_)
        refine lv_sipush (v := 999) hx hb dX5_receive_61 (by decide) ?_
        refine va_mmin hx hb (C.1.2.2.1.trans hl.1.symm) C.1.2.2.2.1 (hts _ tw_536) (hts _ tw_225) (hts _ tw_74) (hts _ tw_226) (Nat.le_of_ble_eq_true rfl) (Nat.le_of_ble_eq_true rfl) (Nat.le_of_ble_eq_true rfl) (Nat.le_of_ble_eq_true rfl) dX5_receive_64 ?_
        refine lv_topi (fun x16 (e16 : x16 = if 999 < x15 then 999 else x15) => ?_)
        have t16 : x16.toInt = min x15.toInt 999 := tmin e16 rfl kp999
        refine lv_goto (tgt := 71) hx hb dX5_receive_67 (by decide) ?_
        refine rp_6_7 C hW (List.mem_append_right _ hmo) tw_151 dX5_receive_71 (fun H locs hW => ?_)
        have hWr : WB g A s.heap H locs (J, L, (hv I [] [(6, 7)] (up3 I 6 7 o x16)), P, E, N) (sgX g ++ dy) := by
          rw [← ag_hvE (J := I) (R := []) (F := [(6, 7)]) (ag_up3 (Or.inr rfl) ag_rf)]
          exact hW
        exact end_v C hr hlocks (up3 I 6 7 o x16) hWr trivial dX5_receive_74
    · have c3 : ¬ x2.toInt = 0 := tne rfl kp0 c3
      refine lv_iconst (v := 0) hx hb dX5_receive_20 (by decide) ?_
      refine lv_goto (tgt := 44) hx hb dX5_receive_21 (by decide) ?_
      refine lv_istore_n (lv' := [(3, .int 0), (0, .ref o), (1, .int a0), (2, .int a1)]) hx hb dX5_receive_44 rfl hl (by decide) rfl (fun ls hl => ?_)
      refine lv_aload_n hx hb dX5_receive_45 rfl (lv_at hl 1 rfl) ?_
      refine lv_iload_n hx hb dX5_receive_46 rfl (lv_at hl 0 rfl) ?_
      refine lv_if_le (tgt := 70) hx hb dX5_receive_47 (by decide) (fun c17 => ?_) (fun c17 => ?_)
      · skip
        refine lv_iconst (v := 0) hx hb dX5_receive_70 (by decide) ?_
        refine rp_6_7 C hW (List.mem_append_right _ hmo) tw_151 dX5_receive_71 (fun H locs hW => ?_)
        have hWr : WB g A s.heap H locs (J, L, (hv I [] [(6, 7)] (up3 I 6 7 o 0)), P, E, N) (sgX g ++ dy) := by
          rw [← ag_hvE (J := I) (R := []) (F := [(6, 7)]) (ag_up3 (Or.inr rfl) ag_rf)]
          exact hW
        exact end_v C hr hlocks (up3 I 6 7 o 0) hWr trivial dX5_receive_74
      · exact absurd (by decide) c17

set_option maxHeartbeats 4000000 in
set_option maxRecDepth 100000 in
theorem c_X3_carry (l : Launch) (g : gG) (J : Nat → Nat → Int32) (L : Nat → Nat → Int64) (I : Nat → Nat → Nat → Int32) (P : Nat → Nat → Nat → Option Nat) (E : Nat → Option Nat) (N : Nat → Nat) (dy : List (Nat × Nat)) (sz : Nat) (a0 : Int32) (a1 : Int32) (a2 : Int32) (hwf : WXF g J P E N dy) : Met l yX3_carry (WS yX3_carry cX3_carry 6 none) (RM (4) 0 0) (PC g [.ref (g.2.2.1 4), .int a0, .int a1, .int a2] ((J, L, I, P, E, N), sgX g ++ dy) sz) (va_Qv (fun (u : (Nat → Nat → Nat → Int32)) => True) (fun u t => at_ g (FR g ((J, L, I, P, E, N), sgX g ++ dy) sz) ((J, L, (hv I [] [(6, 6), (6, 7)] u), P, E, N), sgX g ++ dy) t) (FR g ((J, L, I, P, E, N), sgX g ++ dy) sz)) 0 0 (FR g ((J, L, I, P, E, N), sgX g ++ dy) sz) := by
  refine ent (by decide +kernel) (Nat.le_of_ble_eq_true rfl) ?_
  intro p e s m below meth c ls hsz C hW hr hlocks hname hl
  generalize FR g ((J, L, I, P, E, N), sgX g ++ dy) sz = A at C hW ⊢
  have hx := C.1.1
  have hb := C.1.2.1
  have hts := C.1.2.2.2.2
  have hl : lv_has ls 6 [(0, .ref (g.2.2.1 4)), (1, .int a0), (2, .int a1), (3, .int a2)] := hl
  obtain ⟨H, hH⟩ : ∃ H : Heap, H = s.heap := ⟨_, rfl⟩
  obtain ⟨locs, hlocs⟩ : ∃ q : List Loc, q = [] := ⟨_, rfl⟩
  have hW : WB g A s.heap H locs (J, L, I, P, E, N) (sgX g ++ dy) := by rw [hH, hlocs]; exact hW
  obtain ⟨h20a, h20b, -⟩ := hwf.1.1
  obtain ⟨h21a, h21b, -⟩ := hwf.1.2.1
  obtain ⟨h22a, h22b, -⟩ := hwf.1.2.2.1
  obtain ⟨h23a, h23b, -⟩ := hwf.1.2.2.2
  obtain ⟨h24a, h24b, -⟩ := hwf.2.1.1
  obtain ⟨h25a, h25b, -⟩ := hwf.2.1.2.1
  obtain ⟨h26a, h26b, -⟩ := hwf.2.1.2.2.1
  obtain ⟨h27a, h27b, -⟩ := hwf.2.1.2.2.2
  refine start_ hH hlocs ?_
  refine lv_iconst (v := 0) hx hb dX3_carry_0 (by decide) ?_
  refine lv_istore (lv' := [(4, .int 0), (0, .ref (g.2.2.1 4)), (1, .int a0), (2, .int a1), (3, .int a2)]) hx hb dX3_carry_1 hl (by decide) rfl (fun ls hl => ?_)
  have loop3 : ∀ (n : Nat) (m4 : Int32) (Kl1 : Nat → Nat → Nat → Int32) (H : Heap) (locs : List Loc) (ls : Array Slot), ((J 20 2).toInt - m4.toInt).toNat < n → 0 ≤ m4.toInt → WB g A s.heap H locs (J, L, (hv I [] [(6, 6), (6, 7)] Kl1), P, E, N) (sgX g ++ dy) → lv_has ls 6 [(4, .int m4), (0, .ref (g.2.2.1 4)), (1, .int a0), (2, .int a1), (3, .int a2)] → W p l e (RM (4) 0 0) s m ([.ref (g.2.2.1 4), .int a0, .int a1, .int a2] : List Value).toArray below meth c H locs 0 0 (MQ below (va_Qv (fun (u : (Nat → Nat → Nat → Int32)) => True) (fun u t => at_ g A ((J, L, (hv I [] [(6, 6), (6, 7)] u), P, E, N), sgX g ++ dy) t) A) ([.ref (g.2.2.1 4), .int a0, .int a1, .int a2] : List Value).toArray s 0 0 A) (F0 m 3 ls []) := by
    intro n
    induction n with
    | zero => intro m4 Kl1 H locs ls hmeas; exact absurd hmeas (Nat.not_lt_zero _)
    | succ n ih =>
      intro m4 Kl1 H locs ls hmeas hi hW hl
      refine lv_iload hx hb dX3_carry_3 (lv_at hl 0 rfl) ?_
      refine lv_aload_n hx hb dX3_carry_5 rfl (lv_at hl 1 rfl) ?_
      refine rg_4_0 C hW (mx_ rfl) tw_232 dX3_carry_6 ?_
      refine ci_ C hW (runV (x := (g.2.2.1 20)) (As := []) (rest := [.int m4]) (T := ((J, L, (hv I [] [(6, 6), (6, 7)] Kl1), P, E, N), sgX g ++ dy)) C hW (c_Jx4a65c_size_8abf5 l g J L (hv I [] [(6, 6), (6, 7)] Kl1) P E N dy H.size 20 rfl ) mi_Jx4a65c_size_8abf5 tw_467 (recv_ (T := ((J, L, (hv I [] [(6, 6), (6, 7)] Kl1), P, E, N), sgX g ++ dy)) C hW (mx_ rfl) (cel_list rfl) rfl) ⟨rfl, rfl, Nat.le_of_ble_eq_true rfl, Nat.le_of_ble_eq_true rfl⟩ rfl hl.1 rfl (Nat.le_of_ble_eq_true rfl) dX3_carry_9 ⟨Nat.le_of_ble_eq_true rfl, Nat.le_of_ble_eq_true rfl⟩) (fun r2 u2 H locs hp2 hW => ?_)
      have hc2 : ((r2 = J 20 2)) := hp2
      clear hp2
      have hr2 : r2 = J 20 2 := hc2
      refine lv_as (J 20 2) hr2 ?_
      have hW : WB g A s.heap H locs (J, L, (hv I [] [(6, 6), (6, 7)] Kl1), P, E, N) (sgX g ++ dy) := hW
      refine lv_icmp_ge (tgt := 37) hx hb dX3_carry_12 (by decide) (fun c3 => ?_) (fun c3 => ?_)
      · have c3 : (J 20 2).toInt ≤ m4.toInt := tle rfl rfl c3
        refine lv_iconst (v := 0) hx hb dX3_carry_37 (by decide) ?_
        refine lv_istore (lv' := [(4, .int 0), (0, .ref (g.2.2.1 4)), (1, .int a0), (2, .int a1), (3, .int a2)]) hx hb dX3_carry_38 hl (by decide) rfl (fun ls hl => ?_)
        have loop40 : ∀ (n40 : Nat) (m4 : Int32) (Kl4 : Nat → Nat → Nat → Int32) (H : Heap) (locs : List Loc) (ls : Array Slot), ((J 21 2).toInt - m4.toInt).toNat < n40 → 0 ≤ m4.toInt → WB g A s.heap H locs (J, L, (hv (hv I [] [(6, 6), (6, 7)] Kl1) [] [(6, 6), (6, 7)] Kl4), P, E, N) (sgX g ++ dy) → lv_has ls 6 [(4, .int m4), (0, .ref (g.2.2.1 4)), (1, .int a0), (2, .int a1), (3, .int a2)] → W p l e (RM (4) 0 0) s m ([.ref (g.2.2.1 4), .int a0, .int a1, .int a2] : List Value).toArray below meth c H locs 0 0 (MQ below (va_Qv (fun (u : (Nat → Nat → Nat → Int32)) => True) (fun u t => at_ g A ((J, L, (hv I [] [(6, 6), (6, 7)] u), P, E, N), sgX g ++ dy) t) A) ([.ref (g.2.2.1 4), .int a0, .int a1, .int a2] : List Value).toArray s 0 0 A) (F0 m 40 ls []) := by
          intro n40
          induction n40 with
          | zero => intro m4 Kl4 H locs ls hmeas; exact absurd hmeas (Nat.not_lt_zero _)
          | succ n40 ih40 =>
            intro m4 Kl4 H locs ls hmeas hi hW hl
            refine lv_iload hx hb dX3_carry_40 (lv_at hl 0 rfl) ?_
            refine lv_aload_n hx hb dX3_carry_42 rfl (lv_at hl 1 rfl) ?_
            refine rg_4_1 C hW (mx_ rfl) tw_234 dX3_carry_43 ?_
            refine ci_ C hW (runV (x := (g.2.2.1 21)) (As := []) (rest := [.int m4]) (T := ((J, L, (hv (hv I [] [(6, 6), (6, 7)] Kl1) [] [(6, 6), (6, 7)] Kl4), P, E, N), sgX g ++ dy)) C hW (c_Jx4a65c_size_8abf5 l g J L (hv (hv I [] [(6, 6), (6, 7)] Kl1) [] [(6, 6), (6, 7)] Kl4) P E N dy H.size 21 rfl ) mi_Jx4a65c_size_8abf5 tw_467 (recv_ (T := ((J, L, (hv (hv I [] [(6, 6), (6, 7)] Kl1) [] [(6, 6), (6, 7)] Kl4), P, E, N), sgX g ++ dy)) C hW (mx_ rfl) (cel_list rfl) rfl) ⟨rfl, rfl, Nat.le_of_ble_eq_true rfl, Nat.le_of_ble_eq_true rfl⟩ rfl hl.1 rfl (Nat.le_of_ble_eq_true rfl) dX3_carry_46 ⟨Nat.le_of_ble_eq_true rfl, Nat.le_of_ble_eq_true rfl⟩) (fun r5 u5 H locs hp5 hW => ?_)
            have hc5 : ((r5 = J 21 2)) := hp5
            clear hp5
            have hr5 : r5 = J 21 2 := hc5
            refine lv_as (J 21 2) hr5 ?_
            have hW : WB g A s.heap H locs (J, L, (hv (hv I [] [(6, 6), (6, 7)] Kl1) [] [(6, 6), (6, 7)] Kl4), P, E, N) (sgX g ++ dy) := hW
            refine lv_icmp_ge (tgt := 99) hx hb dX3_carry_49 (by decide) (fun c6 => ?_) (fun c6 => ?_)
            · have c6 : (J 21 2).toInt ≤ m4.toInt := tle rfl rfl c6
              refine lv_iconst (v := 0) hx hb dX3_carry_99 (by decide) ?_
              refine lv_istore (lv' := [(4, .int 0), (0, .ref (g.2.2.1 4)), (1, .int a0), (2, .int a1), (3, .int a2)]) hx hb dX3_carry_100 hl (by decide) rfl (fun ls hl => ?_)
              have loop102 : ∀ (n102 : Nat) (m4 : Int32) (Kl7 : Nat → Nat → Nat → Int32) (H : Heap) (locs : List Loc) (ls : Array Slot), ((J 20 2).toInt - m4.toInt).toNat < n102 → 0 ≤ m4.toInt → WB g A s.heap H locs (J, L, (hv (hv (hv I [] [(6, 6), (6, 7)] Kl1) [] [(6, 6), (6, 7)] Kl4) [] [(6, 6), (6, 7)] Kl7), P, E, N) (sgX g ++ dy) → lv_has ls 6 [(4, .int m4), (0, .ref (g.2.2.1 4)), (1, .int a0), (2, .int a1), (3, .int a2)] → W p l e (RM (4) 0 0) s m ([.ref (g.2.2.1 4), .int a0, .int a1, .int a2] : List Value).toArray below meth c H locs 0 0 (MQ below (va_Qv (fun (u : (Nat → Nat → Nat → Int32)) => True) (fun u t => at_ g A ((J, L, (hv I [] [(6, 6), (6, 7)] u), P, E, N), sgX g ++ dy) t) A) ([.ref (g.2.2.1 4), .int a0, .int a1, .int a2] : List Value).toArray s 0 0 A) (F0 m 102 ls []) := by
                intro n102
                induction n102 with
                | zero => intro m4 Kl7 H locs ls hmeas; exact absurd hmeas (Nat.not_lt_zero _)
                | succ n102 ih102 =>
                  intro m4 Kl7 H locs ls hmeas hi hW hl
                  refine lv_iload hx hb dX3_carry_102 (lv_at hl 0 rfl) ?_
                  refine lv_aload_n hx hb dX3_carry_104 rfl (lv_at hl 1 rfl) ?_
                  refine rg_4_0 C hW (mx_ rfl) tw_232 dX3_carry_105 ?_
                  refine ci_ C hW (runV (x := (g.2.2.1 20)) (As := []) (rest := [.int m4]) (T := ((J, L, (hv (hv (hv I [] [(6, 6), (6, 7)] Kl1) [] [(6, 6), (6, 7)] Kl4) [] [(6, 6), (6, 7)] Kl7), P, E, N), sgX g ++ dy)) C hW (c_Jx4a65c_size_8abf5 l g J L (hv (hv (hv I [] [(6, 6), (6, 7)] Kl1) [] [(6, 6), (6, 7)] Kl4) [] [(6, 6), (6, 7)] Kl7) P E N dy H.size 20 rfl ) mi_Jx4a65c_size_8abf5 tw_467 (recv_ (T := ((J, L, (hv (hv (hv I [] [(6, 6), (6, 7)] Kl1) [] [(6, 6), (6, 7)] Kl4) [] [(6, 6), (6, 7)] Kl7), P, E, N), sgX g ++ dy)) C hW (mx_ rfl) (cel_list rfl) rfl) ⟨rfl, rfl, Nat.le_of_ble_eq_true rfl, Nat.le_of_ble_eq_true rfl⟩ rfl hl.1 rfl (Nat.le_of_ble_eq_true rfl) dX3_carry_108 ⟨Nat.le_of_ble_eq_true rfl, Nat.le_of_ble_eq_true rfl⟩) (fun r8 u8 H locs hp8 hW => ?_)
                  have hc8 : ((r8 = J 20 2)) := hp8
                  clear hp8
                  have hr8 : r8 = J 20 2 := hc8
                  refine lv_as (J 20 2) hr8 ?_
                  have hW : WB g A s.heap H locs (J, L, (hv (hv (hv I [] [(6, 6), (6, 7)] Kl1) [] [(6, 6), (6, 7)] Kl4) [] [(6, 6), (6, 7)] Kl7), P, E, N) (sgX g ++ dy) := hW
                  refine lv_icmp_ge (tgt := 137) hx hb dX3_carry_111 (by decide) (fun c9 => ?_) (fun c9 => ?_)
                  · have c9 : (J 20 2).toInt ≤ m4.toInt := tle rfl rfl c9
                    have hWr : WB g A s.heap H locs (J, L, (hv I [] [(6, 6), (6, 7)] (hv (hv (hv I [] [(6, 6), (6, 7)] Kl1) [] [(6, 6), (6, 7)] Kl4) [] [(6, 6), (6, 7)] Kl7)), P, E, N) (sgX g ++ dy) := by
                      rw [← ag_hvE (J := I) (R := []) (F := [(6, 6), (6, 7)]) (ag_hv rfl rfl (ag_hv rfl rfl (ag_hv rfl rfl ag_rf)))]
                      exact hW
                    exact end_v C hr hlocks (hv (hv (hv I [] [(6, 6), (6, 7)] Kl1) [] [(6, 6), (6, 7)] Kl4) [] [(6, 6), (6, 7)] Kl7) hWr trivial dX3_carry_137
                  · have c9 : m4.toInt < (J 20 2).toInt := tnle rfl rfl c9
                    refine lv_aload_n hx hb dX3_carry_114 rfl (lv_at hl 1 rfl) ?_
                    refine rg_4_0 C hW (mx_ rfl) tw_232 dX3_carry_115 ?_
                    refine lv_iload hx hb dX3_carry_118 (lv_at hl 0 rfl) ?_
                    refine cq_ C hW (runV (x := (g.2.2.1 20)) (As := [.int m4]) (rest := []) (T := ((J, L, (hv (hv (hv I [] [(6, 6), (6, 7)] Kl1) [] [(6, 6), (6, 7)] Kl4) [] [(6, 6), (6, 7)] Kl7), P, E, N), sgX g ++ dy)) C hW ((c_Jx4a65c_get_915e3 6) l g J L (hv (hv (hv I [] [(6, 6), (6, 7)] Kl1) [] [(6, 6), (6, 7)] Kl4) [] [(6, 6), (6, 7)] Kl7) P E N dy H.size 20 rfl m4 (show LWF g J P E N dy 20 6 from hwf.1.1) (show 0 ≤ m4.toInt ∧ m4.toInt < (J 20 2).toInt from by omega)) mi_Jx4a65c_get_915e3 tw_471 (recv_ (T := ((J, L, (hv (hv (hv I [] [(6, 6), (6, 7)] Kl1) [] [(6, 6), (6, 7)] Kl4) [] [(6, 6), (6, 7)] Kl7), P, E, N), sgX g ++ dy)) C hW (mx_ rfl) (cel_list rfl) rfl) ⟨rfl, rfl, Nat.le_of_ble_eq_true rfl, Nat.le_of_ble_eq_true rfl⟩ rfl hl.1 rfl (Nat.le_of_ble_eq_true rfl) dX3_carry_120 ⟨Nat.le_of_ble_eq_true rfl, Nat.le_of_ble_eq_true rfl⟩) (fun q10 u10 H locs hp10 hW => ?_)
                    have hq10 : (q10 = some (elt E P 20 m4.toNatClampNeg)) := hp10
                    clear hp10
                    have hW : WB g A s.heap H locs (J, L, (hv (hv (hv I [] [(6, 6), (6, 7)] Kl1) [] [(6, 6), (6, 7)] Kl4) [] [(6, 6), (6, 7)] Kl7), P, E, N) (sgX g ++ dy) := hW
                    subst hq10
                    obtain ⟨o10, ho10⟩ : ∃ z : Nat, z = elt E P 20 m4.toNatClampNeg := ⟨_, rfl⟩
                    have hm10 : (6, o10) ∈ dy := by rw [ho10]; exact (lw_mem (er := 6) hwf.1.1 (show (m4.toNatClampNeg : Int) < (J 20 2).toInt from by have := tcl m4; omega))
                    refine lv_asv (v' := .ref o10) (by rw [ho10]; rfl) ?_
                    refine g_cast C hW (List.mem_append_right _ hm10) rfl rfl tw_131 dX3_carry_123 ?_
                    refine lv_iload_n hx hb dX3_carry_126 rfl (lv_at hl 2 rfl) ?_
                    refine lv_iload_n hx hb dX3_carry_127 rfl (lv_at hl 3 rfl) ?_
                    refine cv_ C hW (runV (x := o10) (As := [.int a0, .int a1]) (rest := []) (T := ((J, L, (hv (hv (hv I [] [(6, 6), (6, 7)] Kl1) [] [(6, 6), (6, 7)] Kl4) [] [(6, 6), (6, 7)] Kl7), P, E, N), sgX g ++ dy)) C hW (c_X5_receive l g J L (hv (hv (hv I [] [(6, 6), (6, 7)] Kl1) [] [(6, 6), (6, 7)] Kl4) [] [(6, 6), (6, 7)] Kl7) P E N dy H.size o10 hm10 a0 a1 hwf) mi_X5_receive tw_532 (recv_ (T := ((J, L, (hv (hv (hv I [] [(6, 6), (6, 7)] Kl1) [] [(6, 6), (6, 7)] Kl4) [] [(6, 6), (6, 7)] Kl7), P, E, N), sgX g ++ dy)) C hW (List.mem_append_right _ hm10) rfl rfl) ⟨rfl, rfl, Nat.le_of_ble_eq_true rfl, Nat.le_of_ble_eq_true rfl⟩ rfl hl.1 rfl (Nat.le_of_ble_eq_true rfl) dX3_carry_128 ⟨Nat.le_of_ble_eq_true rfl, Nat.le_of_ble_eq_true rfl⟩) (fun u11 H locs hp11 hW => ?_)
                    have hW : WB g A s.heap H locs (J, L, (hv (hv (hv (hv I [] [(6, 6), (6, 7)] Kl1) [] [(6, 6), (6, 7)] Kl4) [] [(6, 6), (6, 7)] Kl7) [] [(6, 7)] u11), P, E, N) (sgX g ++ dy) := hW
                    obtain ⟨x12, e12⟩ : ∃ y : Int32, y = m4 + 1 := ⟨_, rfl⟩
                    refine lv_iinc (v := x12) (lv' := [(4, .int x12), (0, .ref (g.2.2.1 4)), (1, .int a0), (2, .int a1), (3, .int a2)]) hx hb dX3_carry_131 hl (k := 0) rfl (by rw [e12]; rfl) (by decide) rfl (fun ls hl => ?_)
                    try have t12 : x12.toInt = m4.toInt + 1 := tadd e12 rfl kp1 (by omega)
                    refine lv_goto (tgt := 102) hx hb dX3_carry_134 (by decide) ?_
                    have hWl : WB g A s.heap H locs (J, L, (hv (hv (hv I [] [(6, 6), (6, 7)] Kl1) [] [(6, 6), (6, 7)] Kl4) [] [(6, 6), (6, 7)] (hv (hv (hv (hv I [] [(6, 6), (6, 7)] Kl1) [] [(6, 6), (6, 7)] Kl4) [] [(6, 6), (6, 7)] Kl7) [] [(6, 7)] u11)), P, E, N) (sgX g ++ dy) := by
                      rw [← ag_hvE (J := (hv (hv I [] [(6, 6), (6, 7)] Kl1) [] [(6, 6), (6, 7)] Kl4)) (R := []) (F := [(6, 6), (6, 7)]) (ag_hv rfl rfl (ag_hv rfl rfl ag_rf))]
                      exact hW
                    refine ih102 x12 (hv (hv (hv (hv I [] [(6, 6), (6, 7)] Kl1) [] [(6, 6), (6, 7)] Kl4) [] [(6, 6), (6, 7)] Kl7) [] [(6, 7)] u11) H locs ls ?_ ?_ hWl (lv_sub hl [0, 1, 2, 3, 4] rfl)
                    · show ((J 20 2).toInt - x12.toInt).toNat < n102
                      omega
                    · show 0 ≤ x12.toInt
                      first | omega | exact hi | assumption
              -- into the loop
              have hWl : WB g A s.heap H locs (J, L, (hv (hv (hv I [] [(6, 6), (6, 7)] Kl1) [] [(6, 6), (6, 7)] Kl4) [] [(6, 6), (6, 7)] (hv (hv I [] [(6, 6), (6, 7)] Kl1) [] [(6, 6), (6, 7)] Kl4)), P, E, N) (sgX g ++ dy) := by
                rw [← ag_hvE (J := (hv (hv I [] [(6, 6), (6, 7)] Kl1) [] [(6, 6), (6, 7)] Kl4)) (R := []) (F := [(6, 6), (6, 7)]) ag_rf]
                exact hW
              refine loop102 (((J 20 2).toInt - (0 : Int32).toInt).toNat + 1) 0 (hv (hv I [] [(6, 6), (6, 7)] Kl1) [] [(6, 6), (6, 7)] Kl4) H locs ls ?_ ?_ hWl (lv_sub hl [0, 1, 2, 3, 4] rfl)
              · exact Nat.lt_succ_self _
              · show 0 ≤ (0 : Int32).toInt
                try rw [kp0]
                first | omega | exact hi | assumption
            · have c6 : m4.toInt < (J 21 2).toInt := tnle rfl rfl c6
              refine lv_aload_n hx hb dX3_carry_52 rfl (lv_at hl 1 rfl) ?_
              refine rg_4_1 C hW (mx_ rfl) tw_234 dX3_carry_53 ?_
              refine lv_iload hx hb dX3_carry_56 (lv_at hl 0 rfl) ?_
              refine cq_ C hW (runV (x := (g.2.2.1 21)) (As := [.int m4]) (rest := []) (T := ((J, L, (hv (hv I [] [(6, 6), (6, 7)] Kl1) [] [(6, 6), (6, 7)] Kl4), P, E, N), sgX g ++ dy)) C hW ((c_Jx4a65c_get_915e3 1) l g J L (hv (hv I [] [(6, 6), (6, 7)] Kl1) [] [(6, 6), (6, 7)] Kl4) P E N dy H.size 21 rfl m4 (show LWF g J P E N dy 21 1 from hwf.1.2.1) (show 0 ≤ m4.toInt ∧ m4.toInt < (J 21 2).toInt from by omega)) mi_Jx4a65c_get_915e3 tw_471 (recv_ (T := ((J, L, (hv (hv I [] [(6, 6), (6, 7)] Kl1) [] [(6, 6), (6, 7)] Kl4), P, E, N), sgX g ++ dy)) C hW (mx_ rfl) (cel_list rfl) rfl) ⟨rfl, rfl, Nat.le_of_ble_eq_true rfl, Nat.le_of_ble_eq_true rfl⟩ rfl hl.1 rfl (Nat.le_of_ble_eq_true rfl) dX3_carry_58 ⟨Nat.le_of_ble_eq_true rfl, Nat.le_of_ble_eq_true rfl⟩) (fun q13 u13 H locs hp13 hW => ?_)
              have hq13 : (q13 = some (elt E P 21 m4.toNatClampNeg)) := hp13
              clear hp13
              have hW : WB g A s.heap H locs (J, L, (hv (hv I [] [(6, 6), (6, 7)] Kl1) [] [(6, 6), (6, 7)] Kl4), P, E, N) (sgX g ++ dy) := hW
              subst hq13
              obtain ⟨o13, ho13⟩ : ∃ z : Nat, z = elt E P 21 m4.toNatClampNeg := ⟨_, rfl⟩
              have hm13 : (1, o13) ∈ dy := by rw [ho13]; exact (lw_mem (er := 1) hwf.1.2.1 (show (m4.toNatClampNeg : Int) < (J 21 2).toInt from by have := tcl m4; omega))
              refine lv_asv (v' := .ref o13) (by rw [ho13]; rfl) ?_
              refine g_cast C hW (List.mem_append_right _ hm13) rfl rfl tw_531 dX3_carry_61 ?_
              refine lv_astore (lv' := [(5, .ref o13), (4, .int m4), (0, .ref (g.2.2.1 4)), (1, .int a0), (2, .int a1), (3, .int a2)]) hx hb dX3_carry_64 hl (by decide) rfl (fun ls hl => ?_)
              refine lv_aload hx hb dX3_carry_66 (lv_at hl 0 rfl) ?_
              refine rg_1_1 C hW (List.mem_append_right _ hm13) tw_510 dX3_carry_68 ?_
              refine lv_topi (fun x14 (e14 : x14 = I 1 1 o13) => ?_)
              have t14 : x14.toInt = (I 1 1 o13).toInt := by rw [e14]
              refine lv_iload_n hx hb dX3_carry_71 rfl (lv_at hl 5 rfl) ?_
              refine lv_icmp_gt (tgt := 93) hx hb dX3_carry_72 (by decide) (fun c15 => ?_) (fun c15 => ?_)
              · have c15 : a2.toInt < x14.toInt := tlt rfl rfl c15
                obtain ⟨x16, e16⟩ : ∃ y : Int32, y = m4 + 1 := ⟨_, rfl⟩
                refine lv_iinc (v := x16) (lv' := [(4, .int x16), (5, .ref o13), (0, .ref (g.2.2.1 4)), (1, .int a0), (2, .int a1), (3, .int a2)]) hx hb dX3_carry_93 hl (k := 1) rfl (by rw [e16]; rfl) (by decide) rfl (fun ls hl => ?_)
                try have t16 : x16.toInt = m4.toInt + 1 := tadd e16 rfl kp1 (by omega)
                refine lv_goto (tgt := 40) hx hb dX3_carry_96 (by decide) ?_
                have hWl : WB g A s.heap H locs (J, L, (hv (hv I [] [(6, 6), (6, 7)] Kl1) [] [(6, 6), (6, 7)] (hv (hv I [] [(6, 6), (6, 7)] Kl1) [] [(6, 6), (6, 7)] Kl4)), P, E, N) (sgX g ++ dy) := by
                  rw [← ag_hvE (J := (hv I [] [(6, 6), (6, 7)] Kl1)) (R := []) (F := [(6, 6), (6, 7)]) (ag_hv rfl rfl ag_rf)]
                  exact hW
                refine ih40 x16 (hv (hv I [] [(6, 6), (6, 7)] Kl1) [] [(6, 6), (6, 7)] Kl4) H locs ls ?_ ?_ hWl (lv_sub hl [0, 2, 3, 4, 5] rfl)
                · show ((J 21 2).toInt - x16.toInt).toNat < n40
                  omega
                · show 0 ≤ x16.toInt
                  first | omega | exact hi | assumption
              · have c15 : x14.toInt ≤ a2.toInt := tnlt rfl rfl c15
                refine lv_iload_n hx hb dX3_carry_75 rfl (lv_at hl 5 rfl) ?_
                refine lv_aload hx hb dX3_carry_76 (lv_at hl 0 rfl) ?_
                refine rg_1_2 C hW (List.mem_append_right _ hm13) tw_512 dX3_carry_78 ?_
                refine lv_topi (fun x17 (e17 : x17 = I 1 2 o13) => ?_)
                have t17 : x17.toInt = (I 1 2 o13).toInt := by rw [e17]
                refine lv_icmp_gt (tgt := 93) hx hb dX3_carry_81 (by decide) (fun c18 => ?_) (fun c18 => ?_)
                · have c18 : x17.toInt < a2.toInt := tlt rfl rfl c18
                  obtain ⟨x19, e19⟩ : ∃ y : Int32, y = m4 + 1 := ⟨_, rfl⟩
                  refine lv_iinc (v := x19) (lv' := [(4, .int x19), (5, .ref o13), (0, .ref (g.2.2.1 4)), (1, .int a0), (2, .int a1), (3, .int a2)]) hx hb dX3_carry_93 hl (k := 1) rfl (by rw [e19]; rfl) (by decide) rfl (fun ls hl => ?_)
                  try have t19 : x19.toInt = m4.toInt + 1 := tadd e19 rfl kp1 (by omega)
                  refine lv_goto (tgt := 40) hx hb dX3_carry_96 (by decide) ?_
                  have hWl : WB g A s.heap H locs (J, L, (hv (hv I [] [(6, 6), (6, 7)] Kl1) [] [(6, 6), (6, 7)] (hv (hv I [] [(6, 6), (6, 7)] Kl1) [] [(6, 6), (6, 7)] Kl4)), P, E, N) (sgX g ++ dy) := by
                    rw [← ag_hvE (J := (hv I [] [(6, 6), (6, 7)] Kl1)) (R := []) (F := [(6, 6), (6, 7)]) (ag_hv rfl rfl ag_rf)]
                    exact hW
                  refine ih40 x19 (hv (hv I [] [(6, 6), (6, 7)] Kl1) [] [(6, 6), (6, 7)] Kl4) H locs ls ?_ ?_ hWl (lv_sub hl [0, 2, 3, 4, 5] rfl)
                  · show ((J 21 2).toInt - x19.toInt).toNat < n40
                    omega
                  · show 0 ≤ x19.toInt
                    first | omega | exact hi | assumption
                · have c18 : a2.toInt ≤ x17.toInt := tnlt rfl rfl c18
                  refine lv_aload hx hb dX3_carry_84 (lv_at hl 0 rfl) ?_
                  refine rg_1_0 C hW (List.mem_append_right _ hm13) tw_508 dX3_carry_86 ?_
                  obtain ⟨b20, hb20, hbm20⟩ := hwf.2.2.2.1 o13 hm13
                  refine lv_asv (v' := .ref b20) (by show va_rf (P 1 0 o13) = _; rw [hb20]; rfl) ?_
                  refine lv_iconst (v := 1) hx hb dX3_carry_89 (by decide) ?_
                  refine rp_6_6 C hW (List.mem_append_right _ hbm20) tw_149 (by decide) dX3_carry_90 (fun H locs hW => ?_)
                  obtain ⟨x21, e21⟩ : ∃ y : Int32, y = m4 + 1 := ⟨_, rfl⟩
                  refine lv_iinc (v := x21) (lv' := [(4, .int x21), (5, .ref o13), (0, .ref (g.2.2.1 4)), (1, .int a0), (2, .int a1), (3, .int a2)]) hx hb dX3_carry_93 hl (k := 1) rfl (by rw [e21]; rfl) (by decide) rfl (fun ls hl => ?_)
                  try have t21 : x21.toInt = m4.toInt + 1 := tadd e21 rfl kp1 (by omega)
                  refine lv_goto (tgt := 40) hx hb dX3_carry_96 (by decide) ?_
                  have hWl : WB g A s.heap H locs (J, L, (hv (hv I [] [(6, 6), (6, 7)] Kl1) [] [(6, 6), (6, 7)] (up3 (hv (hv I [] [(6, 6), (6, 7)] Kl1) [] [(6, 6), (6, 7)] Kl4) 6 6 b20 1)), P, E, N) (sgX g ++ dy) := by
                    rw [← ag_hvE (J := (hv I [] [(6, 6), (6, 7)] Kl1)) (R := []) (F := [(6, 6), (6, 7)]) (ag_up3 (Or.inr rfl) (ag_hv rfl rfl ag_rf))]
                    exact hW
                  refine ih40 x21 (up3 (hv (hv I [] [(6, 6), (6, 7)] Kl1) [] [(6, 6), (6, 7)] Kl4) 6 6 b20 1) H locs ls ?_ ?_ hWl (lv_sub hl [0, 2, 3, 4, 5] rfl)
                  · show ((J 21 2).toInt - x21.toInt).toNat < n40
                    omega
                  · show 0 ≤ x21.toInt
                    first | omega | exact hi | assumption
        -- into the loop
        have hWl : WB g A s.heap H locs (J, L, (hv (hv I [] [(6, 6), (6, 7)] Kl1) [] [(6, 6), (6, 7)] (hv I [] [(6, 6), (6, 7)] Kl1)), P, E, N) (sgX g ++ dy) := by
          rw [← ag_hvE (J := (hv I [] [(6, 6), (6, 7)] Kl1)) (R := []) (F := [(6, 6), (6, 7)]) ag_rf]
          exact hW
        refine loop40 (((J 21 2).toInt - (0 : Int32).toInt).toNat + 1) 0 (hv I [] [(6, 6), (6, 7)] Kl1) H locs ls ?_ ?_ hWl (lv_sub hl [0, 1, 2, 3, 4] rfl)
        · exact Nat.lt_succ_self _
        · show 0 ≤ (0 : Int32).toInt
          try rw [kp0]
          first | omega | exact hi | assumption
      · have c3 : m4.toInt < (J 20 2).toInt := tnle rfl rfl c3
        refine lv_aload_n hx hb dX3_carry_15 rfl (lv_at hl 1 rfl) ?_
        refine rg_4_0 C hW (mx_ rfl) tw_232 dX3_carry_16 ?_
        refine lv_iload hx hb dX3_carry_19 (lv_at hl 0 rfl) ?_
        refine cq_ C hW (runV (x := (g.2.2.1 20)) (As := [.int m4]) (rest := []) (T := ((J, L, (hv I [] [(6, 6), (6, 7)] Kl1), P, E, N), sgX g ++ dy)) C hW ((c_Jx4a65c_get_915e3 6) l g J L (hv I [] [(6, 6), (6, 7)] Kl1) P E N dy H.size 20 rfl m4 (show LWF g J P E N dy 20 6 from hwf.1.1) (show 0 ≤ m4.toInt ∧ m4.toInt < (J 20 2).toInt from by omega)) mi_Jx4a65c_get_915e3 tw_471 (recv_ (T := ((J, L, (hv I [] [(6, 6), (6, 7)] Kl1), P, E, N), sgX g ++ dy)) C hW (mx_ rfl) (cel_list rfl) rfl) ⟨rfl, rfl, Nat.le_of_ble_eq_true rfl, Nat.le_of_ble_eq_true rfl⟩ rfl hl.1 rfl (Nat.le_of_ble_eq_true rfl) dX3_carry_21 ⟨Nat.le_of_ble_eq_true rfl, Nat.le_of_ble_eq_true rfl⟩) (fun q22 u22 H locs hp22 hW => ?_)
        have hq22 : (q22 = some (elt E P 20 m4.toNatClampNeg)) := hp22
        clear hp22
        have hW : WB g A s.heap H locs (J, L, (hv I [] [(6, 6), (6, 7)] Kl1), P, E, N) (sgX g ++ dy) := hW
        subst hq22
        obtain ⟨o22, ho22⟩ : ∃ z : Nat, z = elt E P 20 m4.toNatClampNeg := ⟨_, rfl⟩
        have hm22 : (6, o22) ∈ dy := by rw [ho22]; exact (lw_mem (er := 6) hwf.1.1 (show (m4.toNatClampNeg : Int) < (J 20 2).toInt from by have := tcl m4; omega))
        refine lv_asv (v' := .ref o22) (by rw [ho22]; rfl) ?_
        refine g_cast C hW (List.mem_append_right _ hm22) rfl rfl tw_131 dX3_carry_24 ?_
        refine lv_iconst (v := 0) hx hb dX3_carry_27 (by decide) ?_
        refine rp_6_6 C hW (List.mem_append_right _ hm22) tw_149 (by decide) dX3_carry_28 (fun H locs hW => ?_)
        obtain ⟨x23, e23⟩ : ∃ y : Int32, y = m4 + 1 := ⟨_, rfl⟩
        refine lv_iinc (v := x23) (lv' := [(4, .int x23), (0, .ref (g.2.2.1 4)), (1, .int a0), (2, .int a1), (3, .int a2)]) hx hb dX3_carry_31 hl (k := 0) rfl (by rw [e23]; rfl) (by decide) rfl (fun ls hl => ?_)
        try have t23 : x23.toInt = m4.toInt + 1 := tadd e23 rfl kp1 (by omega)
        refine lv_goto (tgt := 3) hx hb dX3_carry_34 (by decide) ?_
        have hWl : WB g A s.heap H locs (J, L, (hv I [] [(6, 6), (6, 7)] (up3 (hv I [] [(6, 6), (6, 7)] Kl1) 6 6 o22 0)), P, E, N) (sgX g ++ dy) := by
          rw [← ag_hvE (J := I) (R := []) (F := [(6, 6), (6, 7)]) (ag_up3 (Or.inr rfl) (ag_hv rfl rfl ag_rf))]
          exact hW
        refine ih x23 (up3 (hv I [] [(6, 6), (6, 7)] Kl1) 6 6 o22 0) H locs ls ?_ ?_ hWl (lv_sub hl [0, 1, 2, 3, 4] rfl)
        · show ((J 20 2).toInt - x23.toInt).toNat < n
          omega
        · show 0 ≤ x23.toInt
          first | omega | exact hi | assumption
  -- into the loop
  have hWl : WB g A s.heap H locs (J, L, (hv I [] [(6, 6), (6, 7)] I), P, E, N) (sgX g ++ dy) := by
    rw [← ag_hvE (J := I) (R := []) (F := [(6, 6), (6, 7)]) ag_rf]
    exact hW
  refine loop3 (((J 20 2).toInt - (0 : Int32).toInt).toNat + 1) 0 I H locs ls ?_ ?_ hWl (lv_sub hl [0, 1, 2, 3, 4] rfl)
  · exact Nat.lt_succ_self _
  · show 0 ≤ (0 : Int32).toInt
    try rw [kp0]
    first | omega | exact hi | assumption

set_option maxHeartbeats 4000000 in
set_option maxRecDepth 100000 in
theorem c_X3_howHeard (l : Launch) (g : gG) (J : Nat → Nat → Int32) (L : Nat → Nat → Int64) (I : Nat → Nat → Nat → Int32) (P : Nat → Nat → Nat → Option Nat) (E : Nat → Option Nat) (N : Nat → Nat) (dy : List (Nat × Nat)) (sz : Nat) (a0 : Nat) (hm0 : (2, a0) ∈ dy) (a1 : Nat) (hm1 : (9, a1) ∈ dy) (a2 : Int32) (hwf : WXF g J P E N dy) : Met l yX3_howHeard (WS yX3_howHeard cX3_howHeard 5 (some .int)) (RM (3) 0 0) (PC g [.ref (g.2.2.1 4), .ref a0, .ref a1, .int a2] ((J, L, I, P, E, N), sgX g ++ dy) sz) (va_Qi (fun (r : Int32) (u : Unit) => True) (fun u t => at_ g (FR g ((J, L, I, P, E, N), sgX g ++ dy) sz) ((J, L, I, P, E, N), sgX g ++ dy) t) (FR g ((J, L, I, P, E, N), sgX g ++ dy) sz)) 0 0 (FR g ((J, L, I, P, E, N), sgX g ++ dy) sz) := by
  refine ent (by decide +kernel) (Nat.le_of_ble_eq_true rfl) ?_
  intro p e s m below meth c ls hsz C hW hr hlocks hname hl
  generalize FR g ((J, L, I, P, E, N), sgX g ++ dy) sz = A at C hW ⊢
  have hx := C.1.1
  have hb := C.1.2.1
  have hts := C.1.2.2.2.2
  have hl : lv_has ls 5 [(0, .ref (g.2.2.1 4)), (1, .ref a0), (2, .ref a1), (3, .int a2)] := hl
  obtain ⟨H, hH⟩ : ∃ H : Heap, H = s.heap := ⟨_, rfl⟩
  obtain ⟨locs, hlocs⟩ : ∃ q : List Loc, q = [] := ⟨_, rfl⟩
  have hW : WB g A s.heap H locs (J, L, I, P, E, N) (sgX g ++ dy) := by rw [hH, hlocs]; exact hW
  refine start_ hH hlocs ?_
  refine lv_aload_n hx hb dX3_howHeard_0 rfl (lv_at hl 2 rfl) ?_
  refine rg_9_2 C hW (List.mem_append_right _ hm1) tw_428 dX3_howHeard_1 ?_
  refine lv_topi (fun x1 (e1 : x1 = I 9 2 a1) => ?_)
  have t1 : x1.toInt = (I 9 2 a1).toInt := by rw [e1]
  refine lv_bipush (v := 6) hx hb dX3_howHeard_4 (by decide) ?_
  refine lv_icmp_eq (tgt := 20) hx hb dX3_howHeard_6 (by decide) (fun c2 => ?_) (fun c2 => ?_)
  · have c2 : x1.toInt = 6 := teq rfl kp6 c2
    refine lv_iconst (v := 0) hx hb dX3_howHeard_20 (by decide) ?_
    exact end_i C hr hlocks () hW trivial dX3_howHeard_21
  · have c2 : ¬ x1.toInt = 6 := tne rfl kp6 c2
    refine lv_aload_n hx hb dX3_howHeard_9 rfl (lv_at hl 1 rfl) ?_
    refine lv_aload_n hx hb dX3_howHeard_10 rfl (lv_at hl 0 rfl) ?_
    refine rg_4_5 C hW (mx_ rfl) tw_242 dX3_howHeard_11 ?_
    refine ci_ C hW (runV (x := a0) (As := [.int (J 4 5)]) (rest := []) (T := ((J, L, I, P, E, N), sgX g ++ dy)) C hW (c_X1_isReached l g J L I P E N dy H.size a0 hm0 (J 4 5) hwf) mi_X1_isReached tw_721 (recv_ (T := ((J, L, I, P, E, N), sgX g ++ dy)) C hW (List.mem_append_right _ hm0) rfl rfl) ⟨rfl, rfl, Nat.le_of_ble_eq_true rfl, Nat.le_of_ble_eq_true rfl⟩ rfl hl.1 rfl (Nat.le_of_ble_eq_true rfl) dX3_howHeard_14 ⟨Nat.le_of_ble_eq_true rfl, Nat.le_of_ble_eq_true rfl⟩) (fun r3 u3 H locs hp3 hW => ?_)
    have hc3 : ((r3.toInt = 1) ∨ (r3.toInt = 0)) := hp3
    clear hp3
    have hW : WB g A s.heap H locs (J, L, I, P, E, N) (sgX g ++ dy) := hW
    refine lv_if_ne (tgt := 22) hx hb dX3_howHeard_17 (by decide) (fun c4 => ?_) (fun c4 => ?_)
    · have c4 : ¬ r3.toInt = 0 := tne rfl kp0 c4
      refine lv_iconst (v := 1) hx hb dX3_howHeard_22 (by decide) ?_
      refine lv_iload_n hx hb dX3_howHeard_23 rfl (lv_at hl 3 rfl) ?_
      refine ci_ C hW (runSN (As := [.int a2]) (rest := [.int 1]) (T := ((J, L, I, P, E, N), sgX g ++ dy)) C hW (c_X11_hourOf l g J L I P E N dy H.size a2 ) mi_X11_hourOf (List.mem_of_getElem? (i := 4) rfl) ⟨rfl, rfl, Nat.le_of_ble_eq_true rfl, Nat.le_of_ble_eq_true rfl⟩ rfl hl.1 rfl (Nat.le_of_ble_eq_true rfl) dX3_howHeard_24 ⟨Nat.le_of_ble_eq_true rfl, Nat.le_of_ble_eq_true rfl⟩) (fun r5 u5 H locs hp5 hW => ?_)
      have hW : WB g A s.heap H locs (J, L, I, P, E, N) (sgX g ++ dy) := hW
      refine lv_ishl hx hb dX3_howHeard_27 ?_
      refine lv_topi (fun x6 (e6 : x6 = 1 <<< (r5 &&& 31)) => ?_)
      refine lv_istore (lv' := [(4, .int x6), (0, .ref (g.2.2.1 4)), (1, .ref a0), (2, .ref a1), (3, .int a2)]) hx hb dX3_howHeard_28 hl (by decide) rfl (fun ls hl => ?_)
      refine lv_aload_n hx hb dX3_howHeard_30 rfl (lv_at hl 3 rfl) ?_
      refine rg_9_2 C hW (List.mem_append_right _ hm1) tw_428 dX3_howHeard_31 ?_
      refine lv_topi (fun x7 (e7 : x7 = I 9 2 a1) => ?_)
      have t7 : x7.toInt = (I 9 2 a1).toInt := by rw [e7]
      refine lv_iconst (v := 2) hx hb dX3_howHeard_34 (by decide) ?_
      refine lv_icmp_eq (tgt := 48) hx hb dX3_howHeard_35 (by decide) (fun c8 => ?_) (fun c8 => ?_)
      · have c8 : x7.toInt = 2 := teq rfl kp2 c8
        refine lv_iconst (v := 2) hx hb dX3_howHeard_48 (by decide) ?_
        exact end_i C hr hlocks () hW trivial dX3_howHeard_49
      · have c8 : ¬ x7.toInt = 2 := tne rfl kp2 c8
        refine lv_aload_n hx hb dX3_howHeard_38 rfl (lv_at hl 2 rfl) ?_
        refine rg_2_2 C hW (List.mem_append_right _ hm0) tw_552 dX3_howHeard_39 ?_
        refine lv_topi (fun x9 (e9 : x9 = I 2 2 a0) => ?_)
        have t9 : x9.toInt = (I 2 2 a0).toInt := by rw [e9]
        refine lv_iload hx hb dX3_howHeard_42 (lv_at hl 0 rfl) ?_
        refine lv_iand hx hb dX3_howHeard_44 ?_
        refine lv_topi (fun x10 (e10 : x10 = x9 &&& x6) => ?_)
        refine lv_if_eq (tgt := 50) hx hb dX3_howHeard_45 (by decide) (fun c11 => ?_) (fun c11 => ?_)
        · have c11 : x10.toInt = 0 := teq rfl kp0 c11
          refine lv_aload_n hx hb dX3_howHeard_50 rfl (lv_at hl 2 rfl) ?_
          refine rg_2_3 C hW (List.mem_append_right _ hm0) tw_554 dX3_howHeard_51 ?_
          refine lv_topi (fun x12 (e12 : x12 = I 2 3 a0) => ?_)
          have t12 : x12.toInt = (I 2 3 a0).toInt := by rw [e12]
          refine lv_iload hx hb dX3_howHeard_54 (lv_at hl 0 rfl) ?_
          refine lv_iand hx hb dX3_howHeard_56 ?_
          refine lv_topi (fun x13 (e13 : x13 = x12 &&& x6) => ?_)
          refine lv_if_eq (tgt := 64) hx hb dX3_howHeard_57 (by decide) (fun c14 => ?_) (fun c14 => ?_)
          · have c14 : x13.toInt = 0 := teq rfl kp0 c14
            refine lv_iconst (v := 0) hx hb dX3_howHeard_64 (by decide) ?_
            exact end_i C hr hlocks () hW trivial dX3_howHeard_65
          · have c14 : ¬ x13.toInt = 0 := tne rfl kp0 c14
            refine lv_iconst (v := 1) hx hb dX3_howHeard_60 (by decide) ?_
            refine lv_goto (tgt := 65) hx hb dX3_howHeard_61 (by decide) ?_
            exact end_i C hr hlocks () hW trivial dX3_howHeard_65
        · have c11 : ¬ x10.toInt = 0 := tne rfl kp0 c11
          refine lv_iconst (v := 2) hx hb dX3_howHeard_48 (by decide) ?_
          exact end_i C hr hlocks () hW trivial dX3_howHeard_49
    · have c4 : r3.toInt = 0 := teq rfl kp0 c4
      refine lv_iconst (v := 0) hx hb dX3_howHeard_20 (by decide) ?_
      exact end_i C hr hlocks () hW trivial dX3_howHeard_21

set_option maxHeartbeats 4000000 in
set_option maxRecDepth 100000 in
theorem c_X3_tally (l : Launch) (g : gG) (J : Nat → Nat → Int32) (L : Nat → Nat → Int64) (I : Nat → Nat → Nat → Int32) (P : Nat → Nat → Nat → Option Nat) (E : Nat → Option Nat) (N : Nat → Nat) (dy : List (Nat × Nat)) (sz : Nat) (a0 : Nat) (hm0 : (9, a0) ∈ dy) (a1 : Int32) (hwf : WXF g J P E N dy) : Met l yX3_tally (WS yX3_tally cX3_tally 5 none) (RM (5) 0 0) (PC g [.ref (g.2.2.1 4), .ref a0, .int a1] ((J, L, I, P, E, N), sgX g ++ dy) sz) (va_Qv (fun (u : (Nat → Nat → Int32) × (Nat → Nat → Nat → Int32)) => True) (fun u t => at_ g (FR g ((J, L, I, P, E, N), sgX g ++ dy) sz) (((hv J [] [(4, 6), (4, 7)] u.1), L, (hv I [] [(6, 6), (6, 7)] u.2), P, E, N), sgX g ++ dy) t) (FR g ((J, L, I, P, E, N), sgX g ++ dy) sz)) 0 0 (FR g ((J, L, I, P, E, N), sgX g ++ dy) sz) := by
  refine ent (by decide +kernel) (Nat.le_of_ble_eq_true rfl) ?_
  intro p e s m below meth c ls hsz C hW hr hlocks hname hl
  generalize FR g ((J, L, I, P, E, N), sgX g ++ dy) sz = A at C hW ⊢
  have hx := C.1.1
  have hb := C.1.2.1
  have hts := C.1.2.2.2.2
  have hl : lv_has ls 5 [(0, .ref (g.2.2.1 4)), (1, .ref a0), (2, .int a1)] := hl
  obtain ⟨H, hH⟩ : ∃ H : Heap, H = s.heap := ⟨_, rfl⟩
  obtain ⟨locs, hlocs⟩ : ∃ q : List Loc, q = [] := ⟨_, rfl⟩
  have hW : WB g A s.heap H locs (J, L, I, P, E, N) (sgX g ++ dy) := by rw [hH, hlocs]; exact hW
  obtain ⟨h20a, h20b, -⟩ := hwf.1.1
  obtain ⟨h21a, h21b, -⟩ := hwf.1.2.1
  obtain ⟨h22a, h22b, -⟩ := hwf.1.2.2.1
  obtain ⟨h23a, h23b, -⟩ := hwf.1.2.2.2
  obtain ⟨h24a, h24b, -⟩ := hwf.2.1.1
  obtain ⟨h25a, h25b, -⟩ := hwf.2.1.2.1
  obtain ⟨h26a, h26b, -⟩ := hwf.2.1.2.2.1
  obtain ⟨h27a, h27b, -⟩ := hwf.2.1.2.2.2
  refine start_ hH hlocs ?_
  refine lv_aload_n hx hb dX3_tally_0 rfl (lv_at hl 0 rfl) ?_
  refine lv_iconst (v := 0) hx hb dX3_tally_1 (by decide) ?_
  refine rp_4_6 C hW (mx_ rfl) tw_244 dX3_tally_2 (fun H locs hW => ?_)
  refine lv_aload_n hx hb dX3_tally_5 rfl (lv_at hl 0 rfl) ?_
  refine lv_iconst (v := 0) hx hb dX3_tally_6 (by decide) ?_
  refine rp_4_7 C hW (mx_ rfl) tw_246 dX3_tally_7 (fun H locs hW => ?_)
  refine lv_aload_n hx hb dX3_tally_10 rfl (lv_at hl 1 rfl) ?_
  refine rg_9_2 C hW (List.mem_append_right _ hm0) tw_428 dX3_tally_11 ?_
  refine lv_topi (fun x1 (e1 : x1 = I 9 2 a0) => ?_)
  have t1 : x1.toInt = (I 9 2 a0).toInt := by rw [e1]
  refine lv_bipush (v := 6) hx hb dX3_tally_14 (by decide) ?_
  refine lv_icmp_ne (tgt := 20) hx hb dX3_tally_16 (by decide) (fun c2 => ?_) (fun c2 => ?_)
  · have c2 : ¬ x1.toInt = 6 := tne rfl kp6 c2
    refine lv_aload_n hx hb dX3_tally_20 rfl (lv_at hl 0 rfl) ?_
    refine lv_aload_n hx hb dX3_tally_21 rfl (lv_at hl 1 rfl) ?_
    refine rg_9_5 C hW (List.mem_append_right _ hm0) tw_435 dX3_tally_22 ?_
    refine lv_topi (fun x3 (e3 : x3 = I 9 5 a0) => ?_)
    have t3 : x3.toInt = (I 9 5 a0).toInt := by rw [e3]
    refine lv_aload_n hx hb dX3_tally_25 rfl (lv_at hl 1 rfl) ?_
    refine rg_9_3 C hW (List.mem_append_right _ hm0) tw_431 dX3_tally_26 ?_
    refine lv_topi (fun x4 (e4 : x4 = I 9 3 a0) => ?_)
    have t4 : x4.toInt = (I 9 3 a0).toInt := by rw [e4]
    refine lv_iload_n hx hb dX3_tally_29 rfl (lv_at hl 2 rfl) ?_
    refine cv_ C hW (runV (x := (g.2.2.1 4)) (As := [.int x3, .int x4, .int a1]) (rest := []) (T := (((up2 (up2 J 4 6 0) 4 7 0), L, I, P, E, N), sgX g ++ dy)) C hW (c_X3_carry l g (up2 (up2 J 4 6 0) 4 7 0) L I P E N dy H.size x3 x4 a1 hwf) mi_X3_carry tw_716 (recv_ (T := (((up2 (up2 J 4 6 0) 4 7 0), L, I, P, E, N), sgX g ++ dy)) C hW (mx_ rfl) rfl rfl) ⟨rfl, rfl, Nat.le_of_ble_eq_true rfl, Nat.le_of_ble_eq_true rfl⟩ rfl hl.1 rfl (Nat.le_of_ble_eq_true rfl) dX3_tally_30 ⟨Nat.le_of_ble_eq_true rfl, Nat.le_of_ble_eq_true rfl⟩) (fun u5 H locs hp5 hW => ?_)
    have hW : WB g A s.heap H locs ((up2 (up2 J 4 6 0) 4 7 0), L, (hv I [] [(6, 6), (6, 7)] u5), P, E, N) (sgX g ++ dy) := hW
    refine lv_iconst (v := 0) hx hb dX3_tally_33 (by decide) ?_
    refine lv_istore_n (lv' := [(3, .int 0), (0, .ref (g.2.2.1 4)), (1, .ref a0), (2, .int a1)]) hx hb dX3_tally_34 rfl hl (by decide) rfl (fun ls hl => ?_)
    have loop35 : ∀ (n : Nat) (m3 : Int32) (Gl6 : Nat → Nat → Int32) (Kl7 : Nat → Nat → Nat → Int32) (H : Heap) (locs : List Loc) (ls : Array Slot), ((J 22 2).toInt - m3.toInt).toNat < n → 0 ≤ m3.toInt → WB g A s.heap H locs ((hv (up2 (up2 J 4 6 0) 4 7 0) [] [(4, 6), (4, 7)] Gl6), L, (hv (hv I [] [(6, 6), (6, 7)] u5) [] [(6, 6), (6, 7)] Kl7), P, E, N) (sgX g ++ dy) → lv_has ls 5 [(3, .int m3), (0, .ref (g.2.2.1 4)), (1, .ref a0), (2, .int a1)] → W p l e (RM (5) 0 0) s m ([.ref (g.2.2.1 4), .ref a0, .int a1] : List Value).toArray below meth c H locs 0 0 (MQ below (va_Qv (fun (u : (Nat → Nat → Int32) × (Nat → Nat → Nat → Int32)) => True) (fun u t => at_ g A (((hv J [] [(4, 6), (4, 7)] u.1), L, (hv I [] [(6, 6), (6, 7)] u.2), P, E, N), sgX g ++ dy) t) A) ([.ref (g.2.2.1 4), .ref a0, .int a1] : List Value).toArray s 0 0 A) (F0 m 35 ls []) := by
      intro n
      induction n with
      | zero => intro m3 Gl6 Kl7 H locs ls hmeas; exact absurd hmeas (Nat.not_lt_zero _)
      | succ n ih =>
        intro m3 Gl6 Kl7 H locs ls hmeas hi hW hl
        refine lv_iload_n hx hb dX3_tally_35 rfl (lv_at hl 0 rfl) ?_
        refine lv_aload_n hx hb dX3_tally_36 rfl (lv_at hl 1 rfl) ?_
        refine rg_4_2 C hW (mx_ rfl) tw_236 dX3_tally_37 ?_
        refine ci_ C hW (runV (x := (g.2.2.1 22)) (As := []) (rest := [.int m3]) (T := (((hv (up2 (up2 J 4 6 0) 4 7 0) [] [(4, 6), (4, 7)] Gl6), L, (hv (hv I [] [(6, 6), (6, 7)] u5) [] [(6, 6), (6, 7)] Kl7), P, E, N), sgX g ++ dy)) C hW (c_Jx4a65c_size_8abf5 l g (hv (up2 (up2 J 4 6 0) 4 7 0) [] [(4, 6), (4, 7)] Gl6) L (hv (hv I [] [(6, 6), (6, 7)] u5) [] [(6, 6), (6, 7)] Kl7) P E N dy H.size 22 rfl ) mi_Jx4a65c_size_8abf5 tw_467 (recv_ (T := (((hv (up2 (up2 J 4 6 0) 4 7 0) [] [(4, 6), (4, 7)] Gl6), L, (hv (hv I [] [(6, 6), (6, 7)] u5) [] [(6, 6), (6, 7)] Kl7), P, E, N), sgX g ++ dy)) C hW (mx_ rfl) (cel_list rfl) rfl) ⟨rfl, rfl, Nat.le_of_ble_eq_true rfl, Nat.le_of_ble_eq_true rfl⟩ rfl hl.1 rfl (Nat.le_of_ble_eq_true rfl) dX3_tally_40 ⟨Nat.le_of_ble_eq_true rfl, Nat.le_of_ble_eq_true rfl⟩) (fun r8 u8 H locs hp8 hW => ?_)
        have hc8 : ((r8 = J 22 2)) := hp8
        clear hp8
        have hr8 : r8 = J 22 2 := hc8
        refine lv_as (J 22 2) hr8 ?_
        have hW : WB g A s.heap H locs ((hv (up2 (up2 J 4 6 0) 4 7 0) [] [(4, 6), (4, 7)] Gl6), L, (hv (hv I [] [(6, 6), (6, 7)] u5) [] [(6, 6), (6, 7)] Kl7), P, E, N) (sgX g ++ dy) := hW
        refine lv_icmp_ge (tgt := 110) hx hb dX3_tally_43 (by decide) (fun c9 => ?_) (fun c9 => ?_)
        · have c9 : (J 22 2).toInt ≤ m3.toInt := tle rfl rfl c9
          have hWr : WB g A s.heap H locs ((hv J [] [(4, 6), (4, 7)] (hv (up2 (up2 J 4 6 0) 4 7 0) [] [(4, 6), (4, 7)] Gl6)), L, (hv I [] [(6, 6), (6, 7)] (hv (hv I [] [(6, 6), (6, 7)] u5) [] [(6, 6), (6, 7)] Kl7)), P, E, N) (sgX g ++ dy) := by
            rw [← ag_hvE (J := J) (R := []) (F := [(4, 6), (4, 7)]) (ag_hv rfl rfl (ag_up (Or.inr rfl) (ag_up (Or.inr rfl) ag_rf)))]
            rw [← ag_hvE (J := I) (R := []) (F := [(6, 6), (6, 7)]) (ag_hv rfl rfl (ag_hv rfl rfl ag_rf))]
            exact hW
          exact end_v C hr hlocks ((hv (up2 (up2 J 4 6 0) 4 7 0) [] [(4, 6), (4, 7)] Gl6), (hv (hv I [] [(6, 6), (6, 7)] u5) [] [(6, 6), (6, 7)] Kl7)) hWr trivial dX3_tally_110
        · have c9 : m3.toInt < (J 22 2).toInt := tnle rfl rfl c9
          refine lv_aload_n hx hb dX3_tally_46 rfl (lv_at hl 1 rfl) ?_
          refine lv_aload_n hx hb dX3_tally_47 rfl (lv_at hl 1 rfl) ?_
          refine rg_4_2 C hW (mx_ rfl) tw_236 dX3_tally_48 ?_
          refine lv_iload_n hx hb dX3_tally_51 rfl (lv_at hl 0 rfl) ?_
          refine cq_ C hW (runV (x := (g.2.2.1 22)) (As := [.int m3]) (rest := [.ref (g.2.2.1 4)]) (T := (((hv (up2 (up2 J 4 6 0) 4 7 0) [] [(4, 6), (4, 7)] Gl6), L, (hv (hv I [] [(6, 6), (6, 7)] u5) [] [(6, 6), (6, 7)] Kl7), P, E, N), sgX g ++ dy)) C hW ((c_Jx4a65c_get_915e3 2) l g (hv (up2 (up2 J 4 6 0) 4 7 0) [] [(4, 6), (4, 7)] Gl6) L (hv (hv I [] [(6, 6), (6, 7)] u5) [] [(6, 6), (6, 7)] Kl7) P E N dy H.size 22 rfl m3 (show LWF g J P E N dy 22 2 from hwf.1.2.2.1) (show 0 ≤ m3.toInt ∧ m3.toInt < (J 22 2).toInt from by omega)) mi_Jx4a65c_get_915e3 tw_471 (recv_ (T := (((hv (up2 (up2 J 4 6 0) 4 7 0) [] [(4, 6), (4, 7)] Gl6), L, (hv (hv I [] [(6, 6), (6, 7)] u5) [] [(6, 6), (6, 7)] Kl7), P, E, N), sgX g ++ dy)) C hW (mx_ rfl) (cel_list rfl) rfl) ⟨rfl, rfl, Nat.le_of_ble_eq_true rfl, Nat.le_of_ble_eq_true rfl⟩ rfl hl.1 rfl (Nat.le_of_ble_eq_true rfl) dX3_tally_52 ⟨Nat.le_of_ble_eq_true rfl, Nat.le_of_ble_eq_true rfl⟩) (fun q10 u10 H locs hp10 hW => ?_)
          have hq10 : (q10 = some (elt E P 22 m3.toNatClampNeg)) := hp10
          clear hp10
          have hW : WB g A s.heap H locs ((hv (up2 (up2 J 4 6 0) 4 7 0) [] [(4, 6), (4, 7)] Gl6), L, (hv (hv I [] [(6, 6), (6, 7)] u5) [] [(6, 6), (6, 7)] Kl7), P, E, N) (sgX g ++ dy) := hW
          subst hq10
          obtain ⟨o10, ho10⟩ : ∃ z : Nat, z = elt E P 22 m3.toNatClampNeg := ⟨_, rfl⟩
          have hm10 : (2, o10) ∈ dy := by rw [ho10]; exact (lw_mem (er := 2) hwf.1.2.2.1 (show (m3.toNatClampNeg : Int) < (J 22 2).toInt from by have := tcl m3; omega))
          refine lv_asv (v' := .ref o10) (by rw [ho10]; rfl) ?_
          refine g_cast C hW (List.mem_append_right _ hm10) rfl rfl tw_580 dX3_tally_55 ?_
          refine lv_aload_n hx hb dX3_tally_58 rfl (lv_at hl 2 rfl) ?_
          refine lv_iload_n hx hb dX3_tally_59 rfl (lv_at hl 3 rfl) ?_
          refine ci_ C hW (runV (x := (g.2.2.1 4)) (As := [.ref o10, .ref a0, .int a1]) (rest := []) (T := (((hv (up2 (up2 J 4 6 0) 4 7 0) [] [(4, 6), (4, 7)] Gl6), L, (hv (hv I [] [(6, 6), (6, 7)] u5) [] [(6, 6), (6, 7)] Kl7), P, E, N), sgX g ++ dy)) C hW (c_X3_howHeard l g (hv (up2 (up2 J 4 6 0) 4 7 0) [] [(4, 6), (4, 7)] Gl6) L (hv (hv I [] [(6, 6), (6, 7)] u5) [] [(6, 6), (6, 7)] Kl7) P E N dy H.size o10 hm10 a0 hm0 a1 hwf) mi_X3_howHeard tw_717 (recv_ (T := (((hv (up2 (up2 J 4 6 0) 4 7 0) [] [(4, 6), (4, 7)] Gl6), L, (hv (hv I [] [(6, 6), (6, 7)] u5) [] [(6, 6), (6, 7)] Kl7), P, E, N), sgX g ++ dy)) C hW (mx_ rfl) rfl rfl) ⟨rfl, rfl, Nat.le_of_ble_eq_true rfl, Nat.le_of_ble_eq_true rfl⟩ rfl hl.1 rfl (Nat.le_of_ble_eq_true rfl) dX3_tally_60 ⟨Nat.le_of_ble_eq_true rfl, Nat.le_of_ble_eq_true rfl⟩) (fun r11 u11 H locs hp11 hW => ?_)
          have hW : WB g A s.heap H locs ((hv (up2 (up2 J 4 6 0) 4 7 0) [] [(4, 6), (4, 7)] Gl6), L, (hv (hv I [] [(6, 6), (6, 7)] u5) [] [(6, 6), (6, 7)] Kl7), P, E, N) (sgX g ++ dy) := hW
          refine lv_istore (lv' := [(4, .int r11), (3, .int m3), (0, .ref (g.2.2.1 4)), (1, .ref a0), (2, .int a1)]) hx hb dX3_tally_63 hl (by decide) rfl (fun ls hl => ?_)
          refine lv_aload_n hx hb dX3_tally_65 rfl (lv_at hl 2 rfl) ?_
          refine lv_dup hx hb dX3_tally_66 rfl ?_
          refine rg_4_6 C hW (mx_ rfl) tw_244 dX3_tally_67 ?_
          refine lv_as (Gl6 4 6) rfl ?_
          refine lv_iload hx hb dX3_tally_70 (lv_at hl 0 rfl) ?_
          refine lv_iconst (v := 2) hx hb dX3_tally_72 (by decide) ?_
          refine lv_icmp_ne (tgt := 80) hx hb dX3_tally_73 (by decide) (fun c12 => ?_) (fun c12 => ?_)
          · have c12 : ¬ r11.toInt = 2 := tne rfl kp2 c12
            refine lv_iconst (v := 0) hx hb dX3_tally_80 (by decide) ?_
            refine lv_iadd hx hb dX3_tally_81 ?_
            refine lv_topi (fun x13 (e13 : x13 = (Gl6 4 6) + 0) => ?_)
            refine rp_4_6 C hW (mx_ rfl) tw_244 dX3_tally_82 (fun H locs hW => ?_)
            refine lv_aload_n hx hb dX3_tally_85 rfl (lv_at hl 2 rfl) ?_
            refine lv_dup hx hb dX3_tally_86 rfl ?_
            refine rg_4_7 C hW (mx_ rfl) tw_246 dX3_tally_87 ?_
            refine lv_as (Gl6 4 7) rfl ?_
            refine lv_iload hx hb dX3_tally_90 (lv_at hl 0 rfl) ?_
            refine lv_if_le (tgt := 99) hx hb dX3_tally_92 (by decide) (fun c14 => ?_) (fun c14 => ?_)
            · have c14 : r11.toInt ≤ 0 := tle rfl kp0 c14
              refine lv_iconst (v := 0) hx hb dX3_tally_99 (by decide) ?_
              refine lv_iadd hx hb dX3_tally_100 ?_
              refine lv_topi (fun x15 (e15 : x15 = (Gl6 4 7) + 0) => ?_)
              refine rp_4_7 C hW (mx_ rfl) tw_246 dX3_tally_101 (fun H locs hW => ?_)
              obtain ⟨x16, e16⟩ : ∃ y : Int32, y = m3 + 1 := ⟨_, rfl⟩
              refine lv_iinc (v := x16) (lv' := [(3, .int x16), (4, .int r11), (0, .ref (g.2.2.1 4)), (1, .ref a0), (2, .int a1)]) hx hb dX3_tally_104 hl (k := 1) rfl (by rw [e16]; rfl) (by decide) rfl (fun ls hl => ?_)
              try have t16 : x16.toInt = m3.toInt + 1 := tadd e16 rfl kp1 (by omega)
              refine lv_goto (tgt := 35) hx hb dX3_tally_107 (by decide) ?_
              have hWl : WB g A s.heap H locs ((hv (up2 (up2 J 4 6 0) 4 7 0) [] [(4, 6), (4, 7)] (up2 (up2 (hv (up2 (up2 J 4 6 0) 4 7 0) [] [(4, 6), (4, 7)] Gl6) 4 6 x13) 4 7 x15)), L, (hv (hv I [] [(6, 6), (6, 7)] u5) [] [(6, 6), (6, 7)] (hv (hv I [] [(6, 6), (6, 7)] u5) [] [(6, 6), (6, 7)] Kl7)), P, E, N) (sgX g ++ dy) := by
                rw [← ag_hvE (J := (up2 (up2 J 4 6 0) 4 7 0)) (R := []) (F := [(4, 6), (4, 7)]) (ag_up (Or.inr rfl) (ag_up (Or.inr rfl) (ag_hv rfl rfl ag_rf)))]
                rw [← ag_hvE (J := (hv I [] [(6, 6), (6, 7)] u5)) (R := []) (F := [(6, 6), (6, 7)]) (ag_hv rfl rfl ag_rf)]
                exact hW
              refine ih x16 (up2 (up2 (hv (up2 (up2 J 4 6 0) 4 7 0) [] [(4, 6), (4, 7)] Gl6) 4 6 x13) 4 7 x15) (hv (hv I [] [(6, 6), (6, 7)] u5) [] [(6, 6), (6, 7)] Kl7) H locs ls ?_ ?_ hWl (lv_sub hl [0, 2, 3, 4] rfl)
              · show ((J 22 2).toInt - x16.toInt).toNat < n
                omega
              · show 0 ≤ x16.toInt
                first | omega | exact hi | assumption
            · have c14 : 0 < r11.toInt := tnle rfl kp0 c14
              refine lv_iconst (v := 1) hx hb dX3_tally_95 (by decide) ?_
              refine lv_goto (tgt := 100) hx hb dX3_tally_96 (by decide) ?_
              refine lv_iadd hx hb dX3_tally_100 ?_
              refine lv_topi (fun x17 (e17 : x17 = (Gl6 4 7) + 1) => ?_)
              refine rp_4_7 C hW (mx_ rfl) tw_246 dX3_tally_101 (fun H locs hW => ?_)
              obtain ⟨x18, e18⟩ : ∃ y : Int32, y = m3 + 1 := ⟨_, rfl⟩
              refine lv_iinc (v := x18) (lv' := [(3, .int x18), (4, .int r11), (0, .ref (g.2.2.1 4)), (1, .ref a0), (2, .int a1)]) hx hb dX3_tally_104 hl (k := 1) rfl (by rw [e18]; rfl) (by decide) rfl (fun ls hl => ?_)
              try have t18 : x18.toInt = m3.toInt + 1 := tadd e18 rfl kp1 (by omega)
              refine lv_goto (tgt := 35) hx hb dX3_tally_107 (by decide) ?_
              have hWl : WB g A s.heap H locs ((hv (up2 (up2 J 4 6 0) 4 7 0) [] [(4, 6), (4, 7)] (up2 (up2 (hv (up2 (up2 J 4 6 0) 4 7 0) [] [(4, 6), (4, 7)] Gl6) 4 6 x13) 4 7 x17)), L, (hv (hv I [] [(6, 6), (6, 7)] u5) [] [(6, 6), (6, 7)] (hv (hv I [] [(6, 6), (6, 7)] u5) [] [(6, 6), (6, 7)] Kl7)), P, E, N) (sgX g ++ dy) := by
                rw [← ag_hvE (J := (up2 (up2 J 4 6 0) 4 7 0)) (R := []) (F := [(4, 6), (4, 7)]) (ag_up (Or.inr rfl) (ag_up (Or.inr rfl) (ag_hv rfl rfl ag_rf)))]
                rw [← ag_hvE (J := (hv I [] [(6, 6), (6, 7)] u5)) (R := []) (F := [(6, 6), (6, 7)]) (ag_hv rfl rfl ag_rf)]
                exact hW
              refine ih x18 (up2 (up2 (hv (up2 (up2 J 4 6 0) 4 7 0) [] [(4, 6), (4, 7)] Gl6) 4 6 x13) 4 7 x17) (hv (hv I [] [(6, 6), (6, 7)] u5) [] [(6, 6), (6, 7)] Kl7) H locs ls ?_ ?_ hWl (lv_sub hl [0, 2, 3, 4] rfl)
              · show ((J 22 2).toInt - x18.toInt).toNat < n
                omega
              · show 0 ≤ x18.toInt
                first | omega | exact hi | assumption
          · have c12 : r11.toInt = 2 := teq rfl kp2 c12
            refine lv_iconst (v := 1) hx hb dX3_tally_76 (by decide) ?_
            refine lv_goto (tgt := 81) hx hb dX3_tally_77 (by decide) ?_
            refine lv_iadd hx hb dX3_tally_81 ?_
            refine lv_topi (fun x19 (e19 : x19 = (Gl6 4 6) + 1) => ?_)
            refine rp_4_6 C hW (mx_ rfl) tw_244 dX3_tally_82 (fun H locs hW => ?_)
            refine lv_aload_n hx hb dX3_tally_85 rfl (lv_at hl 2 rfl) ?_
            refine lv_dup hx hb dX3_tally_86 rfl ?_
            refine rg_4_7 C hW (mx_ rfl) tw_246 dX3_tally_87 ?_
            refine lv_as (Gl6 4 7) rfl ?_
            refine lv_iload hx hb dX3_tally_90 (lv_at hl 0 rfl) ?_
            refine lv_if_le (tgt := 99) hx hb dX3_tally_92 (by decide) (fun c20 => ?_) (fun c20 => ?_)
            · have c20 : r11.toInt ≤ 0 := tle rfl kp0 c20
              exfalso; omega
            · have c20 : 0 < r11.toInt := tnle rfl kp0 c20
              refine lv_iconst (v := 1) hx hb dX3_tally_95 (by decide) ?_
              refine lv_goto (tgt := 100) hx hb dX3_tally_96 (by decide) ?_
              refine lv_iadd hx hb dX3_tally_100 ?_
              refine lv_topi (fun x21 (e21 : x21 = (Gl6 4 7) + 1) => ?_)
              refine rp_4_7 C hW (mx_ rfl) tw_246 dX3_tally_101 (fun H locs hW => ?_)
              obtain ⟨x22, e22⟩ : ∃ y : Int32, y = m3 + 1 := ⟨_, rfl⟩
              refine lv_iinc (v := x22) (lv' := [(3, .int x22), (4, .int r11), (0, .ref (g.2.2.1 4)), (1, .ref a0), (2, .int a1)]) hx hb dX3_tally_104 hl (k := 1) rfl (by rw [e22]; rfl) (by decide) rfl (fun ls hl => ?_)
              try have t22 : x22.toInt = m3.toInt + 1 := tadd e22 rfl kp1 (by omega)
              refine lv_goto (tgt := 35) hx hb dX3_tally_107 (by decide) ?_
              have hWl : WB g A s.heap H locs ((hv (up2 (up2 J 4 6 0) 4 7 0) [] [(4, 6), (4, 7)] (up2 (up2 (hv (up2 (up2 J 4 6 0) 4 7 0) [] [(4, 6), (4, 7)] Gl6) 4 6 x19) 4 7 x21)), L, (hv (hv I [] [(6, 6), (6, 7)] u5) [] [(6, 6), (6, 7)] (hv (hv I [] [(6, 6), (6, 7)] u5) [] [(6, 6), (6, 7)] Kl7)), P, E, N) (sgX g ++ dy) := by
                rw [← ag_hvE (J := (up2 (up2 J 4 6 0) 4 7 0)) (R := []) (F := [(4, 6), (4, 7)]) (ag_up (Or.inr rfl) (ag_up (Or.inr rfl) (ag_hv rfl rfl ag_rf)))]
                rw [← ag_hvE (J := (hv I [] [(6, 6), (6, 7)] u5)) (R := []) (F := [(6, 6), (6, 7)]) (ag_hv rfl rfl ag_rf)]
                exact hW
              refine ih x22 (up2 (up2 (hv (up2 (up2 J 4 6 0) 4 7 0) [] [(4, 6), (4, 7)] Gl6) 4 6 x19) 4 7 x21) (hv (hv I [] [(6, 6), (6, 7)] u5) [] [(6, 6), (6, 7)] Kl7) H locs ls ?_ ?_ hWl (lv_sub hl [0, 2, 3, 4] rfl)
              · show ((J 22 2).toInt - x22.toInt).toNat < n
                omega
              · show 0 ≤ x22.toInt
                first | omega | exact hi | assumption
    -- into the loop
    have hWl : WB g A s.heap H locs ((hv (up2 (up2 J 4 6 0) 4 7 0) [] [(4, 6), (4, 7)] (up2 (up2 J 4 6 0) 4 7 0)), L, (hv (hv I [] [(6, 6), (6, 7)] u5) [] [(6, 6), (6, 7)] (hv I [] [(6, 6), (6, 7)] u5)), P, E, N) (sgX g ++ dy) := by
      rw [← ag_hvE (J := (up2 (up2 J 4 6 0) 4 7 0)) (R := []) (F := [(4, 6), (4, 7)]) ag_rf]
      rw [← ag_hvE (J := (hv I [] [(6, 6), (6, 7)] u5)) (R := []) (F := [(6, 6), (6, 7)]) ag_rf]
      exact hW
    refine loop35 (((J 22 2).toInt - (0 : Int32).toInt).toNat + 1) 0 (up2 (up2 J 4 6 0) 4 7 0) (hv I [] [(6, 6), (6, 7)] u5) H locs ls ?_ ?_ hWl (lv_sub hl [0, 1, 2, 3] rfl)
    · exact Nat.lt_succ_self _
    · show 0 ≤ (0 : Int32).toInt
      try rw [kp0]
      first | omega | exact hi | assumption
  · have c2 : x1.toInt = 6 := teq rfl kp6 c2
    have hWr : WB g A s.heap H locs ((hv J [] [(4, 6), (4, 7)] (up2 (up2 J 4 6 0) 4 7 0)), L, (hv I [] [(6, 6), (6, 7)] I), P, E, N) (sgX g ++ dy) := by
      rw [← ag_hvE (J := J) (R := []) (F := [(4, 6), (4, 7)]) (ag_up (Or.inr rfl) (ag_up (Or.inr rfl) ag_rf))]
      rw [← ag_hvE (J := I) (R := []) (F := [(6, 6), (6, 7)]) ag_rf]
      exact hW
    exact end_v C hr hlocks ((up2 (up2 J 4 6 0) 4 7 0), I) hWr trivial dX3_tally_19

set_option maxHeartbeats 4000000 in
set_option maxRecDepth 100000 in
theorem c_X3_complaints (l : Launch) (g : gG) (J : Nat → Nat → Int32) (L : Nat → Nat → Int64) (I : Nat → Nat → Nat → Int32) (P : Nat → Nat → Nat → Option Nat) (E : Nat → Option Nat) (N : Nat → Nat) (dy : List (Nat × Nat)) (sz : Nat)  (hwf : WXF g J P E N dy) : Met l yX3_complaints (WS yX3_complaints cX3_complaints 3 (some .int)) (RM (4) 0 0) (PC g [.ref (g.2.2.1 4)] ((J, L, I, P, E, N), sgX g ++ dy) sz) (va_Qi (fun (r : Int32) (u : Unit) => True) (fun u t => at_ g (FR g ((J, L, I, P, E, N), sgX g ++ dy) sz) ((J, L, I, P, E, N), sgX g ++ dy) t) (FR g ((J, L, I, P, E, N), sgX g ++ dy) sz)) 0 0 (FR g ((J, L, I, P, E, N), sgX g ++ dy) sz) := by
  refine ent (by decide +kernel) (Nat.le_of_ble_eq_true rfl) ?_
  intro p e s m below meth c ls hsz C hW hr hlocks hname hl
  generalize FR g ((J, L, I, P, E, N), sgX g ++ dy) sz = A at C hW ⊢
  have hx := C.1.1
  have hb := C.1.2.1
  have hts := C.1.2.2.2.2
  have hl : lv_has ls 3 [(0, .ref (g.2.2.1 4))] := hl
  obtain ⟨H, hH⟩ : ∃ H : Heap, H = s.heap := ⟨_, rfl⟩
  obtain ⟨locs, hlocs⟩ : ∃ q : List Loc, q = [] := ⟨_, rfl⟩
  have hW : WB g A s.heap H locs (J, L, I, P, E, N) (sgX g ++ dy) := by rw [hH, hlocs]; exact hW
  obtain ⟨h20a, h20b, -⟩ := hwf.1.1
  obtain ⟨h21a, h21b, -⟩ := hwf.1.2.1
  obtain ⟨h22a, h22b, -⟩ := hwf.1.2.2.1
  obtain ⟨h23a, h23b, -⟩ := hwf.1.2.2.2
  obtain ⟨h24a, h24b, -⟩ := hwf.2.1.1
  obtain ⟨h25a, h25b, -⟩ := hwf.2.1.2.1
  obtain ⟨h26a, h26b, -⟩ := hwf.2.1.2.2.1
  obtain ⟨h27a, h27b, -⟩ := hwf.2.1.2.2.2
  refine start_ hH hlocs ?_
  refine lv_iconst (v := 0) hx hb dX3_complaints_0 (by decide) ?_
  refine lv_istore_n (lv' := [(1, .int 0), (0, .ref (g.2.2.1 4))]) hx hb dX3_complaints_1 rfl hl (by decide) rfl (fun ls hl => ?_)
  refine lv_iconst (v := 0) hx hb dX3_complaints_2 (by decide) ?_
  refine lv_istore_n (lv' := [(2, .int 0), (1, .int 0), (0, .ref (g.2.2.1 4))]) hx hb dX3_complaints_3 rfl hl (by decide) rfl (fun ls hl => ?_)
  have loop4 : ∀ (n : Nat) (m1 : Int32) (m2 : Int32) (H : Heap) (locs : List Loc) (ls : Array Slot), ((J 22 2).toInt - m2.toInt).toNat < n → 0 ≤ m2.toInt → WB g A s.heap H locs (J, L, I, P, E, N) (sgX g ++ dy) → lv_has ls 3 [(2, .int m2), (1, .int m1), (0, .ref (g.2.2.1 4))] → W p l e (RM (4) 0 0) s m ([.ref (g.2.2.1 4)] : List Value).toArray below meth c H locs 0 0 (MQ below (va_Qi (fun (r : Int32) (u : Unit) => True) (fun u t => at_ g A ((J, L, I, P, E, N), sgX g ++ dy) t) A) ([.ref (g.2.2.1 4)] : List Value).toArray s 0 0 A) (F0 m 4 ls []) := by
    intro n
    induction n with
    | zero => intro m1 m2 H locs ls hmeas; exact absurd hmeas (Nat.not_lt_zero _)
    | succ n ih =>
      intro m1 m2 H locs ls hmeas hi hW hl
      refine lv_iload_n hx hb dX3_complaints_4 rfl (lv_at hl 0 rfl) ?_
      refine lv_aload_n hx hb dX3_complaints_5 rfl (lv_at hl 2 rfl) ?_
      refine rg_4_2 C hW (mx_ rfl) tw_236 dX3_complaints_6 ?_
      refine ci_ C hW (runV (x := (g.2.2.1 22)) (As := []) (rest := [.int m2]) (T := ((J, L, I, P, E, N), sgX g ++ dy)) C hW (c_Jx4a65c_size_8abf5 l g J L I P E N dy H.size 22 rfl ) mi_Jx4a65c_size_8abf5 tw_467 (recv_ (T := ((J, L, I, P, E, N), sgX g ++ dy)) C hW (mx_ rfl) (cel_list rfl) rfl) ⟨rfl, rfl, Nat.le_of_ble_eq_true rfl, Nat.le_of_ble_eq_true rfl⟩ rfl hl.1 rfl (Nat.le_of_ble_eq_true rfl) dX3_complaints_9 ⟨Nat.le_of_ble_eq_true rfl, Nat.le_of_ble_eq_true rfl⟩) (fun r1 u1 H locs hp1 hW => ?_)
      have hc1 : ((r1 = J 22 2)) := hp1
      clear hp1
      have hr1 : r1 = J 22 2 := hc1
      refine lv_as (J 22 2) hr1 ?_
      have hW : WB g A s.heap H locs (J, L, I, P, E, N) (sgX g ++ dy) := hW
      refine lv_icmp_ge (tgt := 46) hx hb dX3_complaints_12 (by decide) (fun c2 => ?_) (fun c2 => ?_)
      · have c2 : (J 22 2).toInt ≤ m2.toInt := tle rfl rfl c2
        refine lv_iload_n hx hb dX3_complaints_46 rfl (lv_at hl 1 rfl) ?_
        exact end_i C hr hlocks () hW trivial dX3_complaints_47
      · have c2 : m2.toInt < (J 22 2).toInt := tnle rfl rfl c2
        refine lv_iload_n hx hb dX3_complaints_15 rfl (lv_at hl 1 rfl) ?_
        refine lv_aload_n hx hb dX3_complaints_16 rfl (lv_at hl 2 rfl) ?_
        refine rg_4_2 C hW (mx_ rfl) tw_236 dX3_complaints_17 ?_
        refine lv_iload_n hx hb dX3_complaints_20 rfl (lv_at hl 0 rfl) ?_
        refine cq_ C hW (runV (x := (g.2.2.1 22)) (As := [.int m2]) (rest := [.int m1]) (T := ((J, L, I, P, E, N), sgX g ++ dy)) C hW ((c_Jx4a65c_get_915e3 2) l g J L I P E N dy H.size 22 rfl m2 (show LWF g J P E N dy 22 2 from hwf.1.2.2.1) (show 0 ≤ m2.toInt ∧ m2.toInt < (J 22 2).toInt from by omega)) mi_Jx4a65c_get_915e3 tw_471 (recv_ (T := ((J, L, I, P, E, N), sgX g ++ dy)) C hW (mx_ rfl) (cel_list rfl) rfl) ⟨rfl, rfl, Nat.le_of_ble_eq_true rfl, Nat.le_of_ble_eq_true rfl⟩ rfl hl.1 rfl (Nat.le_of_ble_eq_true rfl) dX3_complaints_21 ⟨Nat.le_of_ble_eq_true rfl, Nat.le_of_ble_eq_true rfl⟩) (fun q3 u3 H locs hp3 hW => ?_)
        have hq3 : (q3 = some (elt E P 22 m2.toNatClampNeg)) := hp3
        clear hp3
        have hW : WB g A s.heap H locs (J, L, I, P, E, N) (sgX g ++ dy) := hW
        subst hq3
        obtain ⟨o3, ho3⟩ : ∃ z : Nat, z = elt E P 22 m2.toNatClampNeg := ⟨_, rfl⟩
        have hm3 : (2, o3) ∈ dy := by rw [ho3]; exact (lw_mem (er := 2) hwf.1.2.2.1 (show (m2.toNatClampNeg : Int) < (J 22 2).toInt from by have := tcl m2; omega))
        refine lv_asv (v' := .ref o3) (by rw [ho3]; rfl) ?_
        refine g_cast C hW (List.mem_append_right _ hm3) rfl rfl tw_580 dX3_complaints_24 ?_
        refine rg_2_4 C hW (List.mem_append_right _ hm3) tw_555 dX3_complaints_27 ?_
        refine lv_topi (fun x4 (e4 : x4 = I 2 4 o3) => ?_)
        have t4 : x4.toInt = (I 2 4 o3).toInt := by rw [e4]
        refine lv_if_eq (tgt := 37) hx hb dX3_complaints_30 (by decide) (fun c5 => ?_) (fun c5 => ?_)
        · have c5 : x4.toInt = 0 := teq rfl kp0 c5
          refine lv_iconst (v := 0) hx hb dX3_complaints_37 (by decide) ?_
          refine lv_iadd hx hb dX3_complaints_38 ?_
          refine lv_topi (fun x6 (e6 : x6 = m1 + 0) => ?_)
          refine lv_istore_n (lv' := [(1, .int x6), (2, .int m2), (0, .ref (g.2.2.1 4))]) hx hb dX3_complaints_39 rfl hl (by decide) rfl (fun ls hl => ?_)
          obtain ⟨x7, e7⟩ : ∃ y : Int32, y = m2 + 1 := ⟨_, rfl⟩
          refine lv_iinc (v := x7) (lv' := [(2, .int x7), (1, .int x6), (0, .ref (g.2.2.1 4))]) hx hb dX3_complaints_40 hl (k := 1) rfl (by rw [e7]; rfl) (by decide) rfl (fun ls hl => ?_)
          try have t7 : x7.toInt = m2.toInt + 1 := tadd e7 rfl kp1 (by omega)
          refine lv_goto (tgt := 4) hx hb dX3_complaints_43 (by decide) ?_
          refine ih x6 x7 H locs ls ?_ ?_ hW (lv_sub hl [0, 1, 2] rfl)
          · show ((J 22 2).toInt - x7.toInt).toNat < n
            omega
          · show 0 ≤ x7.toInt
            first | omega | exact hi | assumption
        · have c5 : ¬ x4.toInt = 0 := tne rfl kp0 c5
          refine lv_iconst (v := 1) hx hb dX3_complaints_33 (by decide) ?_
          refine lv_goto (tgt := 38) hx hb dX3_complaints_34 (by decide) ?_
          refine lv_iadd hx hb dX3_complaints_38 ?_
          refine lv_topi (fun x8 (e8 : x8 = m1 + 1) => ?_)
          refine lv_istore_n (lv' := [(1, .int x8), (2, .int m2), (0, .ref (g.2.2.1 4))]) hx hb dX3_complaints_39 rfl hl (by decide) rfl (fun ls hl => ?_)
          obtain ⟨x9, e9⟩ : ∃ y : Int32, y = m2 + 1 := ⟨_, rfl⟩
          refine lv_iinc (v := x9) (lv' := [(2, .int x9), (1, .int x8), (0, .ref (g.2.2.1 4))]) hx hb dX3_complaints_40 hl (k := 1) rfl (by rw [e9]; rfl) (by decide) rfl (fun ls hl => ?_)
          try have t9 : x9.toInt = m2.toInt + 1 := tadd e9 rfl kp1 (by omega)
          refine lv_goto (tgt := 4) hx hb dX3_complaints_43 (by decide) ?_
          refine ih x8 x9 H locs ls ?_ ?_ hW (lv_sub hl [0, 1, 2] rfl)
          · show ((J 22 2).toInt - x9.toInt).toNat < n
            omega
          · show 0 ≤ x9.toInt
            first | omega | exact hi | assumption
  -- into the loop
  refine loop4 (((J 22 2).toInt - (0 : Int32).toInt).toNat + 1) 0 0 H locs ls ?_ ?_ hW (lv_sub hl [0, 1, 2] rfl)
  · exact Nat.lt_succ_self _
  · show 0 ≤ (0 : Int32).toInt
    try rw [kp0]
    try rw [kp0]
    first | omega | exact hi | assumption

set_option maxHeartbeats 4000000 in
set_option maxRecDepth 100000 in
theorem c_X2_spanOf (l : Launch) (g : gG) (J : Nat → Nat → Int32) (L : Nat → Nat → Int64) (I : Nat → Nat → Nat → Int32) (P : Nat → Nat → Nat → Option Nat) (E : Nat → Option Nat) (N : Nat → Nat) (dy : List (Nat × Nat)) (sz : Nat) (a0 : Int32) (hwf : WXF g J P E N dy) : Met l yX2_spanOf (WS yX2_spanOf cX2_spanOf 6 (some (.object "EarPaper$Span"))) (RM (4) 0 0) (PC g [.ref (g.2.2.1 3), .int a0] ((J, L, I, P, E, N), sgX g ++ dy) sz) (va_Qq (fun (r : Option Nat) (u : Unit) => (r = none ∨ (∃ o9 : Nat, r = some o9 ∧ (9, o9) ∈ dy))) (fun u t => at_ g (FR g ((J, L, I, P, E, N), sgX g ++ dy) sz) ((J, L, I, P, E, N), sgX g ++ dy) t) (FR g ((J, L, I, P, E, N), sgX g ++ dy) sz)) 0 0 (FR g ((J, L, I, P, E, N), sgX g ++ dy) sz) := by
  refine ent (by decide +kernel) (Nat.le_of_ble_eq_true rfl) ?_
  intro p e s m below meth c ls hsz C hW hr hlocks hname hl
  generalize FR g ((J, L, I, P, E, N), sgX g ++ dy) sz = A at C hW ⊢
  have hx := C.1.1
  have hb := C.1.2.1
  have hts := C.1.2.2.2.2
  have hl : lv_has ls 6 [(0, .ref (g.2.2.1 3)), (1, .int a0)] := hl
  obtain ⟨H, hH⟩ : ∃ H : Heap, H = s.heap := ⟨_, rfl⟩
  obtain ⟨locs, hlocs⟩ : ∃ q : List Loc, q = [] := ⟨_, rfl⟩
  have hW : WB g A s.heap H locs (J, L, I, P, E, N) (sgX g ++ dy) := by rw [hH, hlocs]; exact hW
  obtain ⟨h20a, h20b, -⟩ := hwf.1.1
  obtain ⟨h21a, h21b, -⟩ := hwf.1.2.1
  obtain ⟨h22a, h22b, -⟩ := hwf.1.2.2.1
  obtain ⟨h23a, h23b, -⟩ := hwf.1.2.2.2
  obtain ⟨h24a, h24b, -⟩ := hwf.2.1.1
  obtain ⟨h25a, h25b, -⟩ := hwf.2.1.2.1
  obtain ⟨h26a, h26b, -⟩ := hwf.2.1.2.2.1
  obtain ⟨h27a, h27b, -⟩ := hwf.2.1.2.2.2
  refine start_ hH hlocs ?_
  refine lv_iload_n hx hb dX2_spanOf_0 rfl (lv_at hl 1 rfl) ?_
  refine lv_if_lt (tgt := 22) hx hb dX2_spanOf_1 (by decide) (fun c1 => ?_) (fun c1 => ?_)
  · have c1 : a0.toInt < 0 := tlt rfl kp0 c1
    refine lv_null hx hb dX2_spanOf_22 ?_
    exact end_q (v := none) C hr (Or.inl ⟨_, rfl⟩) hlocks () hW (Or.inl rfl) dX2_spanOf_23
  · have c1 : 0 ≤ a0.toInt := tnlt rfl kp0 c1
    refine lv_iload_n hx hb dX2_spanOf_4 rfl (lv_at hl 1 rfl) ?_
    refine lv_aload_n hx hb dX2_spanOf_5 rfl (lv_at hl 0 rfl) ?_
    refine rg_3_1 C hW (mx_ rfl) tw_277 dX2_spanOf_6 ?_
    refine lv_icmp_ge (tgt := 22) hx hb dX2_spanOf_9 (by decide) (fun c2 => ?_) (fun c2 => ?_)
    · have c2 : (J 3 1).toInt ≤ a0.toInt := tle rfl rfl c2
      refine lv_null hx hb dX2_spanOf_22 ?_
      exact end_q (v := none) C hr (Or.inl ⟨_, rfl⟩) hlocks () hW (Or.inl rfl) dX2_spanOf_23
    · have c2 : a0.toInt < (J 3 1).toInt := tnle rfl rfl c2
      refine lv_aload_n hx hb dX2_spanOf_12 rfl (lv_at hl 0 rfl) ?_
      refine rg_3_0 C hW (mx_ rfl) tw_276 dX2_spanOf_13 ?_
      refine ci_ C hW (runV (x := (g.2.2.1 27)) (As := []) (rest := []) (T := ((J, L, I, P, E, N), sgX g ++ dy)) C hW (c_Jx4a65c_isEmpty_aae02 l g J L I P E N dy H.size 27 rfl ) mi_Jx4a65c_isEmpty_aae02 tw_643 (recv_ (T := ((J, L, I, P, E, N), sgX g ++ dy)) C hW (mx_ rfl) (cel_list rfl) rfl) ⟨rfl, rfl, Nat.le_of_ble_eq_true rfl, Nat.le_of_ble_eq_true rfl⟩ rfl hl.1 rfl (Nat.le_of_ble_eq_true rfl) dX2_spanOf_16 ⟨Nat.le_of_ble_eq_true rfl, Nat.le_of_ble_eq_true rfl⟩) (fun r3 u3 H locs hp3 hW => ?_)
      have hc3 : ((r3.toInt = 1 ∧ ((J 27 2).toInt = 0)) ∨ (r3.toInt = 0 ∧ (¬ (J 27 2).toInt = 0))) := hp3
      clear hp3
      have hW : WB g A s.heap H locs (J, L, I, P, E, N) (sgX g ++ dy) := hW
      refine lv_if_eq (tgt := 24) hx hb dX2_spanOf_19 (by decide) (fun c4 => ?_) (fun c4 => ?_)
      · have c4 : r3.toInt = 0 := teq rfl kp0 c4
        refine lv_iconst (v := 0) hx hb dX2_spanOf_24 (by decide) ?_
        refine lv_istore_n (lv' := [(2, .int 0), (0, .ref (g.2.2.1 3)), (1, .int a0)]) hx hb dX2_spanOf_25 rfl hl (by decide) rfl (fun ls hl => ?_)
        refine lv_aload_n hx hb dX2_spanOf_26 rfl (lv_at hl 1 rfl) ?_
        refine rg_3_0 C hW (mx_ rfl) tw_276 dX2_spanOf_27 ?_
        refine ci_ C hW (runV (x := (g.2.2.1 27)) (As := []) (rest := []) (T := ((J, L, I, P, E, N), sgX g ++ dy)) C hW (c_Jx4a65c_size_8abf5 l g J L I P E N dy H.size 27 rfl ) mi_Jx4a65c_size_8abf5 tw_647 (recv_ (T := ((J, L, I, P, E, N), sgX g ++ dy)) C hW (mx_ rfl) (cel_list rfl) rfl) ⟨rfl, rfl, Nat.le_of_ble_eq_true rfl, Nat.le_of_ble_eq_true rfl⟩ rfl hl.1 rfl (Nat.le_of_ble_eq_true rfl) dX2_spanOf_30 ⟨Nat.le_of_ble_eq_true rfl, Nat.le_of_ble_eq_true rfl⟩) (fun r5 u5 H locs hp5 hW => ?_)
        have hc5 : ((r5 = J 27 2)) := hp5
        clear hp5
        have hr5 : r5 = J 27 2 := hc5
        refine lv_as (J 27 2) hr5 ?_
        have hW : WB g A s.heap H locs (J, L, I, P, E, N) (sgX g ++ dy) := hW
        refine lv_iconst (v := 1) hx hb dX2_spanOf_33 (by decide) ?_
        refine lv_isub hx hb dX2_spanOf_34 ?_
        refine lv_topi (fun x6 (e6 : x6 = (J 27 2) - 1) => ?_)
        try have t6 : x6.toInt = (J 27 2).toInt - 1 := tsub e6 rfl kp1 (by omega)
        refine lv_istore_n (lv' := [(3, .int x6), (2, .int 0), (0, .ref (g.2.2.1 3)), (1, .int a0)]) hx hb dX2_spanOf_35 rfl hl (by decide) rfl (fun ls hl => ?_)
        refine lv_iconst (v := 0) hx hb dX2_spanOf_36 (by decide) ?_
        refine lv_istore (lv' := [(4, .int 0), (3, .int x6), (2, .int 0), (0, .ref (g.2.2.1 3)), (1, .int a0)]) hx hb dX2_spanOf_37 hl (by decide) rfl (fun ls hl => ?_)
        have loop39 : ∀ (n : Nat) (m2 : Int32) (m3 : Int32) (m4 : Int32) (H : Heap) (locs : List Loc) (ls : Array Slot), (32 - m4.toInt).toNat < n → 0 ≤ m2.toInt ∧ m2.toInt ≤ m3.toInt ∧ m3.toInt < (J 27 2).toInt ∧ 0 ≤ m4.toInt → WB g A s.heap H locs (J, L, I, P, E, N) (sgX g ++ dy) → lv_has ls 6 [(4, .int m4), (3, .int m3), (2, .int m2), (0, .ref (g.2.2.1 3)), (1, .int a0)] → W p l e (RM (4) 0 0) s m ([.ref (g.2.2.1 3), .int a0] : List Value).toArray below meth c H locs 0 0 (MQ below (va_Qq (fun (r : Option Nat) (u : Unit) => (r = none ∨ (∃ o9 : Nat, r = some o9 ∧ (9, o9) ∈ dy))) (fun u t => at_ g A ((J, L, I, P, E, N), sgX g ++ dy) t) A) ([.ref (g.2.2.1 3), .int a0] : List Value).toArray s 0 0 A) (F0 m 39 ls []) := by
          intro n
          induction n with
          | zero => intro m2 m3 m4 H locs ls hmeas; exact absurd hmeas (Nat.not_lt_zero _)
          | succ n ih =>
            intro m2 m3 m4 H locs ls hmeas hi hW hl
            refine lv_iload hx hb dX2_spanOf_39 (lv_at hl 0 rfl) ?_
            refine lv_bipush (v := 32) hx hb dX2_spanOf_41 (by decide) ?_
            refine lv_icmp_ge (tgt := 96) hx hb dX2_spanOf_43 (by decide) (fun c7 => ?_) (fun c7 => ?_)
            · have c7 : 32 ≤ m4.toInt := tle kp32 rfl c7
              refine lv_aload_n hx hb dX2_spanOf_96 rfl (lv_at hl 3 rfl) ?_
              refine rg_3_0 C hW (mx_ rfl) tw_276 dX2_spanOf_97 ?_
              refine lv_iload_n hx hb dX2_spanOf_100 rfl (lv_at hl 2 rfl) ?_
              refine cq_ C hW (runV (x := (g.2.2.1 27)) (As := [.int m2]) (rest := []) (T := ((J, L, I, P, E, N), sgX g ++ dy)) C hW ((c_Jx4a65c_get_915e3 9) l g J L I P E N dy H.size 27 rfl m2 (show LWF g J P E N dy 27 9 from hwf.2.1.2.2.2) (show 0 ≤ m2.toInt ∧ m2.toInt < (J 27 2).toInt from by omega)) mi_Jx4a65c_get_915e3 tw_648 (recv_ (T := ((J, L, I, P, E, N), sgX g ++ dy)) C hW (mx_ rfl) (cel_list rfl) rfl) ⟨rfl, rfl, Nat.le_of_ble_eq_true rfl, Nat.le_of_ble_eq_true rfl⟩ rfl hl.1 rfl (Nat.le_of_ble_eq_true rfl) dX2_spanOf_101 ⟨Nat.le_of_ble_eq_true rfl, Nat.le_of_ble_eq_true rfl⟩) (fun q8 u8 H locs hp8 hW => ?_)
              have hq8 : (q8 = some (elt E P 27 m2.toNatClampNeg)) := hp8
              clear hp8
              have hW : WB g A s.heap H locs (J, L, I, P, E, N) (sgX g ++ dy) := hW
              subst hq8
              obtain ⟨o8, ho8⟩ : ∃ z : Nat, z = elt E P 27 m2.toNatClampNeg := ⟨_, rfl⟩
              have hm8 : (9, o8) ∈ dy := by rw [ho8]; exact (lw_mem (er := 9) hwf.2.1.2.2.2 (show (m2.toNatClampNeg : Int) < (J 27 2).toInt from by have := tcl m2; omega))
              refine lv_asv (v' := .ref o8) (by rw [ho8]; rfl) ?_
              refine g_cast C hW (List.mem_append_right _ hm8) rfl rfl tw_649 dX2_spanOf_104 ?_
              exact end_q (v := some o8) C hr (Or.inl ⟨_, rfl⟩) hlocks () hW (Or.inr ⟨_, rfl, hm8⟩) dX2_spanOf_107
            · have c7 : m4.toInt < 32 := tnle kp32 rfl c7
              refine lv_iload_n hx hb dX2_spanOf_46 rfl (lv_at hl 2 rfl) ?_
              refine lv_iload_n hx hb dX2_spanOf_47 rfl (lv_at hl 1 rfl) ?_
              refine lv_icmp_ge (tgt := 96) hx hb dX2_spanOf_48 (by decide) (fun c9 => ?_) (fun c9 => ?_)
              · have c9 : m3.toInt ≤ m2.toInt := tle rfl rfl c9
                refine lv_aload_n hx hb dX2_spanOf_96 rfl (lv_at hl 3 rfl) ?_
                refine rg_3_0 C hW (mx_ rfl) tw_276 dX2_spanOf_97 ?_
                refine lv_iload_n hx hb dX2_spanOf_100 rfl (lv_at hl 2 rfl) ?_
                refine cq_ C hW (runV (x := (g.2.2.1 27)) (As := [.int m2]) (rest := []) (T := ((J, L, I, P, E, N), sgX g ++ dy)) C hW ((c_Jx4a65c_get_915e3 9) l g J L I P E N dy H.size 27 rfl m2 (show LWF g J P E N dy 27 9 from hwf.2.1.2.2.2) (show 0 ≤ m2.toInt ∧ m2.toInt < (J 27 2).toInt from by omega)) mi_Jx4a65c_get_915e3 tw_648 (recv_ (T := ((J, L, I, P, E, N), sgX g ++ dy)) C hW (mx_ rfl) (cel_list rfl) rfl) ⟨rfl, rfl, Nat.le_of_ble_eq_true rfl, Nat.le_of_ble_eq_true rfl⟩ rfl hl.1 rfl (Nat.le_of_ble_eq_true rfl) dX2_spanOf_101 ⟨Nat.le_of_ble_eq_true rfl, Nat.le_of_ble_eq_true rfl⟩) (fun q10 u10 H locs hp10 hW => ?_)
                have hq10 : (q10 = some (elt E P 27 m2.toNatClampNeg)) := hp10
                clear hp10
                have hW : WB g A s.heap H locs (J, L, I, P, E, N) (sgX g ++ dy) := hW
                subst hq10
                obtain ⟨o10, ho10⟩ : ∃ z : Nat, z = elt E P 27 m2.toNatClampNeg := ⟨_, rfl⟩
                have hm10 : (9, o10) ∈ dy := by rw [ho10]; exact (lw_mem (er := 9) hwf.2.1.2.2.2 (show (m2.toNatClampNeg : Int) < (J 27 2).toInt from by have := tcl m2; omega))
                refine lv_asv (v' := .ref o10) (by rw [ho10]; rfl) ?_
                refine g_cast C hW (List.mem_append_right _ hm10) rfl rfl tw_649 dX2_spanOf_104 ?_
                exact end_q (v := some o10) C hr (Or.inl ⟨_, rfl⟩) hlocks () hW (Or.inr ⟨_, rfl, hm10⟩) dX2_spanOf_107
              · have c9 : m2.toInt < m3.toInt := tnle rfl rfl c9
                refine lv_iload_n hx hb dX2_spanOf_51 rfl (lv_at hl 2 rfl) ?_
                refine lv_iload_n hx hb dX2_spanOf_52 rfl (lv_at hl 1 rfl) ?_
                refine lv_iadd hx hb dX2_spanOf_53 ?_
                refine lv_topi (fun x11 (e11 : x11 = m2 + m3) => ?_)
                try have t11 : x11.toInt = m2.toInt + m3.toInt := tadd e11 rfl rfl (by omega)
                refine lv_iconst (v := 1) hx hb dX2_spanOf_54 (by decide) ?_
                refine lv_iadd hx hb dX2_spanOf_55 ?_
                refine lv_topi (fun x12 (e12 : x12 = x11 + 1) => ?_)
                try have t12 : x12.toInt = x11.toInt + 1 := tadd e12 rfl kp1 (by omega)
                refine lv_iconst (v := 2) hx hb dX2_spanOf_56 (by decide) ?_
                refine lv_idiv hx hb dX2_spanOf_57 (by decide) ?_
                refine lv_topi (fun x13 (e13 : x13 = x12 / 2) => ?_)
                have t13 : x13.toInt = x12.toInt.tdiv 2 := tdiv e13 rfl kp2 (by decide)
                try rw [tdp (a := x12.toInt) (by omega)] at t13
                refine lv_istore (lv' := [(5, .int x13), (4, .int m4), (3, .int m3), (2, .int m2), (0, .ref (g.2.2.1 3)), (1, .int a0)]) hx hb dX2_spanOf_58 hl (by decide) rfl (fun ls hl => ?_)
                refine lv_aload_n hx hb dX2_spanOf_60 rfl (lv_at hl 4 rfl) ?_
                refine rg_3_0 C hW (mx_ rfl) tw_276 dX2_spanOf_61 ?_
                refine lv_iload hx hb dX2_spanOf_64 (lv_at hl 0 rfl) ?_
                refine cq_ C hW (runV (x := (g.2.2.1 27)) (As := [.int x13]) (rest := []) (T := ((J, L, I, P, E, N), sgX g ++ dy)) C hW ((c_Jx4a65c_get_915e3 9) l g J L I P E N dy H.size 27 rfl x13 (show LWF g J P E N dy 27 9 from hwf.2.1.2.2.2) (show 0 ≤ x13.toInt ∧ x13.toInt < (J 27 2).toInt from by omega)) mi_Jx4a65c_get_915e3 tw_648 (recv_ (T := ((J, L, I, P, E, N), sgX g ++ dy)) C hW (mx_ rfl) (cel_list rfl) rfl) ⟨rfl, rfl, Nat.le_of_ble_eq_true rfl, Nat.le_of_ble_eq_true rfl⟩ rfl hl.1 rfl (Nat.le_of_ble_eq_true rfl) dX2_spanOf_66 ⟨Nat.le_of_ble_eq_true rfl, Nat.le_of_ble_eq_true rfl⟩) (fun q14 u14 H locs hp14 hW => ?_)
                have hq14 : (q14 = some (elt E P 27 x13.toNatClampNeg)) := hp14
                clear hp14
                have hW : WB g A s.heap H locs (J, L, I, P, E, N) (sgX g ++ dy) := hW
                subst hq14
                obtain ⟨o14, ho14⟩ : ∃ z : Nat, z = elt E P 27 x13.toNatClampNeg := ⟨_, rfl⟩
                have hm14 : (9, o14) ∈ dy := by rw [ho14]; exact (lw_mem (er := 9) hwf.2.1.2.2.2 (show (x13.toNatClampNeg : Int) < (J 27 2).toInt from by have := tcl x13; omega))
                refine lv_asv (v' := .ref o14) (by rw [ho14]; rfl) ?_
                refine g_cast C hW (List.mem_append_right _ hm14) rfl rfl tw_649 dX2_spanOf_69 ?_
                refine rg_9_0 C hW (List.mem_append_right _ hm14) tw_422 dX2_spanOf_72 ?_
                refine lv_topi (fun x15 (e15 : x15 = I 9 0 o14) => ?_)
                have t15 : x15.toInt = (I 9 0 o14).toInt := by rw [e15]
                refine lv_iload_n hx hb dX2_spanOf_75 rfl (lv_at hl 5 rfl) ?_
                refine lv_icmp_gt (tgt := 85) hx hb dX2_spanOf_76 (by decide) (fun c16 => ?_) (fun c16 => ?_)
                · have c16 : a0.toInt < x15.toInt := tlt rfl rfl c16
                  refine lv_iload hx hb dX2_spanOf_85 (lv_at hl 0 rfl) ?_
                  refine lv_iconst (v := 1) hx hb dX2_spanOf_87 (by decide) ?_
                  refine lv_isub hx hb dX2_spanOf_88 ?_
                  refine lv_topi (fun x17 (e17 : x17 = x13 - 1) => ?_)
                  try have t17 : x17.toInt = x13.toInt - 1 := tsub e17 rfl kp1 (by omega)
                  refine lv_istore_n (lv' := [(3, .int x17), (5, .int x13), (4, .int m4), (2, .int m2), (0, .ref (g.2.2.1 3)), (1, .int a0)]) hx hb dX2_spanOf_89 rfl hl (by decide) rfl (fun ls hl => ?_)
                  obtain ⟨x18, e18⟩ : ∃ y : Int32, y = m4 + 1 := ⟨_, rfl⟩
                  refine lv_iinc (v := x18) (lv' := [(4, .int x18), (3, .int x17), (5, .int x13), (2, .int m2), (0, .ref (g.2.2.1 3)), (1, .int a0)]) hx hb dX2_spanOf_90 hl (k := 2) rfl (by rw [e18]; rfl) (by decide) rfl (fun ls hl => ?_)
                  try have t18 : x18.toInt = m4.toInt + 1 := tadd e18 rfl kp1 (by omega)
                  refine lv_goto (tgt := 39) hx hb dX2_spanOf_93 (by decide) ?_
                  refine ih m2 x17 x18 H locs ls ?_ ?_ hW (lv_sub hl [0, 1, 3, 4, 5] rfl)
                  · show (32 - x18.toInt).toNat < n
                    omega
                  · show 0 ≤ m2.toInt ∧ m2.toInt ≤ x17.toInt ∧ x17.toInt < (J 27 2).toInt ∧ 0 ≤ x18.toInt
                    first | omega | exact hi | assumption
                · have c16 : x15.toInt ≤ a0.toInt := tnlt rfl rfl c16
                  refine lv_iload hx hb dX2_spanOf_79 (lv_at hl 0 rfl) ?_
                  refine lv_istore_n (lv' := [(2, .int x13), (5, .int x13), (4, .int m4), (3, .int m3), (0, .ref (g.2.2.1 3)), (1, .int a0)]) hx hb dX2_spanOf_81 rfl hl (by decide) rfl (fun ls hl => ?_)
                  refine lv_goto (tgt := 90) hx hb dX2_spanOf_82 (by decide) ?_
                  obtain ⟨x19, e19⟩ : ∃ y : Int32, y = m4 + 1 := ⟨_, rfl⟩
                  refine lv_iinc (v := x19) (lv' := [(4, .int x19), (2, .int x13), (5, .int x13), (3, .int m3), (0, .ref (g.2.2.1 3)), (1, .int a0)]) hx hb dX2_spanOf_90 hl (k := 2) rfl (by rw [e19]; rfl) (by decide) rfl (fun ls hl => ?_)
                  try have t19 : x19.toInt = m4.toInt + 1 := tadd e19 rfl kp1 (by omega)
                  refine lv_goto (tgt := 39) hx hb dX2_spanOf_93 (by decide) ?_
                  refine ih x13 m3 x19 H locs ls ?_ ?_ hW (lv_sub hl [0, 3, 1, 4, 5] rfl)
                  · show (32 - x19.toInt).toNat < n
                    omega
                  · show 0 ≤ x13.toInt ∧ x13.toInt ≤ m3.toInt ∧ m3.toInt < (J 27 2).toInt ∧ 0 ≤ x19.toInt
                    first | omega | exact hi | assumption
        -- into the loop
        refine loop39 ((32 - (0 : Int32).toInt).toNat + 1) 0 x6 0 H locs ls ?_ ?_ hW (lv_sub hl [0, 1, 2, 3, 4] rfl)
        · exact Nat.lt_succ_self _
        · show 0 ≤ (0 : Int32).toInt ∧ (0 : Int32).toInt ≤ x6.toInt ∧ x6.toInt < (J 27 2).toInt ∧ 0 ≤ (0 : Int32).toInt
          try rw [kp0]
          try rw [kp0]
          first | omega | exact hi | assumption
      · have c4 : ¬ r3.toInt = 0 := tne rfl kp0 c4
        refine lv_null hx hb dX2_spanOf_22 ?_
        exact end_q (v := none) C hr (Or.inl ⟨_, rfl⟩) hlocks () hW (Or.inl rfl) dX2_spanOf_23
