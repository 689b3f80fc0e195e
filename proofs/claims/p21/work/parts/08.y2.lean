theorem dX11_worthIn_0 : decode cX11_worthIn 0 = .ok (.aload_n 0, 1) := dk_aload_n_0 (by decide +kernel)
theorem dX11_worthIn_1 : decode cX11_worthIn 1 = .ok (.iload_n 1, 1) := dk_iload_n_1 (by decide +kernel)
theorem dX11_worthIn_2 : decode cX11_worthIn 2 = .ok (.iload_n 3, 1) := dk_iload_n_3 (by decide +kernel)
theorem dX11_worthIn_3 : decode cX11_worthIn 3 = .ok (.invokevirtual 347, 3) := dk_invokevirtual (by decide +kernel)
theorem dX11_worthIn_6 : decode cX11_worthIn 6 = .ok (.astore 4, 2) := dk_astore (by decide +kernel)
theorem dX11_worthIn_8 : decode cX11_worthIn 8 = .ok (.aload 4, 2) := dk_aload (by decide +kernel)
theorem dX11_worthIn_10 : decode cX11_worthIn 10 = .ok (.ifnull 12, 3) := dk_ifnull (by decide +kernel)
theorem dX11_worthIn_13 : decode cX11_worthIn 13 = .ok (.aload_n 0, 1) := dk_aload_n_0 (by decide +kernel)
theorem dX11_worthIn_14 : decode cX11_worthIn 14 = .ok (.aload 4, 2) := dk_aload (by decide +kernel)
theorem dX11_worthIn_16 : decode cX11_worthIn 16 = .ok (.aload_n 2, 1) := dk_aload_n_2 (by decide +kernel)
theorem dX11_worthIn_17 : decode cX11_worthIn 17 = .ok (.iload_n 3, 1) := dk_iload_n_3 (by decide +kernel)
theorem dX11_worthIn_18 : decode cX11_worthIn 18 = .ok (.invokevirtual 374, 3) := dk_invokevirtual (by decide +kernel)
theorem dX11_worthIn_21 : decode cX11_worthIn 21 = .ok (.ireturn, 1) := dk_ireturn (by decide +kernel)
theorem dX11_worthIn_22 : decode cX11_worthIn 22 = .ok (.iload_n 1, 1) := dk_iload_n_1 (by decide +kernel)
theorem dX11_worthIn_23 : decode cX11_worthIn 23 = .ok (.iconst 2, 1) := dk_iconst_2 (by decide +kernel)
theorem dX11_worthIn_24 : decode cX11_worthIn 24 = .ok (.if_icmp .eq 5, 3) := dk_if_icmp_eq (by decide +kernel)
theorem dX11_worthIn_27 : decode cX11_worthIn 27 = .ok (.iconst 0, 1) := dk_iconst_0 (by decide +kernel)
theorem dX11_worthIn_28 : decode cX11_worthIn 28 = .ok (.ireturn, 1) := dk_ireturn (by decide +kernel)
theorem dX11_worthIn_29 : decode cX11_worthIn 29 = .ok (.aload_n 0, 1) := dk_aload_n_0 (by decide +kernel)
theorem dX11_worthIn_30 : decode cX11_worthIn 30 = .ok (.getfield 10, 3) := dk_getfield (by decide +kernel)
theorem dX11_worthIn_33 : decode cX11_worthIn 33 = .ok (.aload_n 2, 1) := dk_aload_n_2 (by decide +kernel)
theorem dX11_worthIn_34 : decode cX11_worthIn 34 = .ok (.iload_n 3, 1) := dk_iload_n_3 (by decide +kernel)
theorem dX11_worthIn_35 : decode cX11_worthIn 35 = .ok (.invokevirtual 199, 3) := dk_invokevirtual (by decide +kernel)
theorem dX11_worthIn_38 : decode cX11_worthIn 38 = .ok (.aload_n 0, 1) := dk_aload_n_0 (by decide +kernel)
theorem dX11_worthIn_39 : decode cX11_worthIn 39 = .ok (.getfield 10, 3) := dk_getfield (by decide +kernel)
theorem dX11_worthIn_42 : decode cX11_worthIn 42 = .ok (.getfield 206, 3) := dk_getfield (by decide +kernel)
theorem dX11_worthIn_45 : decode cX11_worthIn 45 = .ok (.ireturn, 1) := dk_ireturn (by decide +kernel)
theorem dX11_worth_0 : decode cX11_worth 0 = .ok (.aload_n 0, 1) := dk_aload_n_0 (by decide +kernel)
theorem dX11_worth_1 : decode cX11_worth 1 = .ok (.getfield 19, 3) := dk_getfield (by decide +kernel)
theorem dX11_worth_4 : decode cX11_worth 4 = .ok (.iload_n 2, 1) := dk_iload_n_2 (by decide +kernel)
theorem dX11_worth_5 : decode cX11_worth 5 = .ok (.invokevirtual 192, 3) := dk_invokevirtual (by decide +kernel)
theorem dX11_worth_8 : decode cX11_worth 8 = .ok (.astore_n 3, 1) := dk_astore_n_3 (by decide +kernel)
theorem dX11_worth_9 : decode cX11_worth 9 = .ok (.aload_n 3, 1) := dk_aload_n_3 (by decide +kernel)
theorem dX11_worth_10 : decode cX11_worth 10 = .ok (.ifnonnull 12, 3) := dk_ifnonnull (by decide +kernel)
theorem dX11_worth_13 : decode cX11_worth 13 = .ok (.ldc 236, 2) := dk_ldc (by decide +kernel)
theorem dX11_worth_15 : decode cX11_worth 15 = .ok (.aload_n 0, 1) := dk_aload_n_0 (by decide +kernel)
theorem dX11_worth_16 : decode cX11_worth 16 = .ok (.iconst (-1), 1) := dk_iconst_m1 (by decide +kernel)
theorem dX11_worth_17 : decode cX11_worth 17 = .ok (.invokevirtual 67, 3) := dk_invokevirtual (by decide +kernel)
theorem dX11_worth_20 : decode cX11_worth 20 = .ok (.isub, 1) := dk_isub (by decide +kernel)
theorem dX11_worth_21 : decode cX11_worth 21 = .ok (.ireturn, 1) := dk_ireturn (by decide +kernel)
theorem dX11_worth_22 : decode cX11_worth 22 = .ok (.iload_n 1, 1) := dk_iload_n_1 (by decide +kernel)
theorem dX11_worth_23 : decode cX11_worth 23 = .ok (.ifCond .lt 8, 3) := dk_ifCond_lt (by decide +kernel)
theorem dX11_worth_26 : decode cX11_worth 26 = .ok (.iload_n 1, 1) := dk_iload_n_1 (by decide +kernel)
theorem dX11_worth_27 : decode cX11_worth 27 = .ok (.iconst 2, 1) := dk_iconst_2 (by decide +kernel)
theorem dX11_worth_28 : decode cX11_worth 28 = .ok (.if_icmp .le 13, 3) := dk_if_icmp_le (by decide +kernel)
theorem dX11_worth_31 : decode cX11_worth 31 = .ok (.ldc 236, 2) := dk_ldc (by decide +kernel)
theorem dX11_worth_33 : decode cX11_worth 33 = .ok (.aload_n 0, 1) := dk_aload_n_0 (by decide +kernel)
theorem dX11_worth_34 : decode cX11_worth 34 = .ok (.bipush (-2), 2) := dk_bipush (by decide +kernel)
theorem dX11_worth_36 : decode cX11_worth 36 = .ok (.invokevirtual 67, 3) := dk_invokevirtual (by decide +kernel)
theorem dX11_worth_39 : decode cX11_worth 39 = .ok (.isub, 1) := dk_isub (by decide +kernel)
theorem dX11_worth_40 : decode cX11_worth 40 = .ok (.ireturn, 1) := dk_ireturn (by decide +kernel)
theorem dX11_worth_41 : decode cX11_worth 41 = .ok (.aload_n 0, 1) := dk_aload_n_0 (by decide +kernel)
theorem dX11_worth_42 : decode cX11_worth 42 = .ok (.iload_n 1, 1) := dk_iload_n_1 (by decide +kernel)
theorem dX11_worth_43 : decode cX11_worth 43 = .ok (.aload_n 3, 1) := dk_aload_n_3 (by decide +kernel)
theorem dX11_worth_44 : decode cX11_worth 44 = .ok (.iload_n 2, 1) := dk_iload_n_2 (by decide +kernel)
theorem dX11_worth_45 : decode cX11_worth 45 = .ok (.invokevirtual 237, 3) := dk_invokevirtual (by decide +kernel)
theorem dX11_worth_48 : decode cX11_worth 48 = .ok (.ireturn, 1) := dk_ireturn (by decide +kernel)
theorem dX11_rights_0 : decode cX11_rights 0 = .ok (.aload_n 0, 1) := dk_aload_n_0 (by decide +kernel)
theorem dX11_rights_1 : decode cX11_rights 1 = .ok (.getfield 19, 3) := dk_getfield (by decide +kernel)
theorem dX11_rights_4 : decode cX11_rights 4 = .ok (.iload_n 1, 1) := dk_iload_n_1 (by decide +kernel)
theorem dX11_rights_5 : decode cX11_rights 5 = .ok (.invokevirtual 192, 3) := dk_invokevirtual (by decide +kernel)
theorem dX11_rights_8 : decode cX11_rights 8 = .ok (.astore 4, 2) := dk_astore (by decide +kernel)
theorem dX11_rights_10 : decode cX11_rights 10 = .ok (.aload 4, 2) := dk_aload (by decide +kernel)
theorem dX11_rights_12 : decode cX11_rights 12 = .ok (.iload_n 2, 1) := dk_iload_n_2 (by decide +kernel)
theorem dX11_rights_13 : decode cX11_rights 13 = .ok (.iload_n 3, 1) := dk_iload_n_3 (by decide +kernel)
theorem dX11_rights_14 : decode cX11_rights 14 = .ok (.invokestatic 273, 3) := dk_invokestatic (by decide +kernel)
theorem dX11_rights_17 : decode cX11_rights 17 = .ok (.istore 5, 2) := dk_istore (by decide +kernel)
theorem dX11_rights_19 : decode cX11_rights 19 = .ok (.iload 5, 2) := dk_iload (by decide +kernel)
theorem dX11_rights_21 : decode cX11_rights 21 = .ok (.ifCond .ne 8, 3) := dk_ifCond_ne (by decide +kernel)
theorem dX11_rights_24 : decode cX11_rights 24 = .ok (.aload 4, 2) := dk_aload (by decide +kernel)
theorem dX11_rights_26 : decode cX11_rights 26 = .ok (.ifnonnull 10, 3) := dk_ifnonnull (by decide +kernel)
theorem dX11_rights_29 : decode cX11_rights 29 = .ok (.aload_n 0, 1) := dk_aload_n_0 (by decide +kernel)
theorem dX11_rights_30 : decode cX11_rights 30 = .ok (.iload 5, 2) := dk_iload (by decide +kernel)
theorem dX11_rights_32 : decode cX11_rights 32 = .ok (.invokevirtual 67, 3) := dk_invokevirtual (by decide +kernel)
theorem dX11_rights_35 : decode cX11_rights 35 = .ok (.ireturn, 1) := dk_ireturn (by decide +kernel)
theorem dX11_rights_36 : decode cX11_rights 36 = .ok (.iload_n 2, 1) := dk_iload_n_2 (by decide +kernel)
theorem dX11_rights_37 : decode cX11_rights 37 = .ok (.invokestatic 284, 3) := dk_invokestatic (by decide +kernel)
theorem dX11_rights_40 : decode cX11_rights 40 = .ok (.bipush 12, 2) := dk_bipush (by decide +kernel)
theorem dX11_rights_42 : decode cX11_rights 42 = .ok (.if_icmp .le 10, 3) := dk_if_icmp_le (by decide +kernel)
theorem dX11_rights_45 : decode cX11_rights 45 = .ok (.aload_n 0, 1) := dk_aload_n_0 (by decide +kernel)
theorem dX11_rights_46 : decode cX11_rights 46 = .ok (.bipush (-6), 2) := dk_bipush (by decide +kernel)
theorem dX11_rights_48 : decode cX11_rights 48 = .ok (.invokevirtual 67, 3) := dk_invokevirtual (by decide +kernel)
theorem dX11_rights_51 : decode cX11_rights 51 = .ok (.ireturn, 1) := dk_ireturn (by decide +kernel)
theorem dX11_rights_52 : decode cX11_rights 52 = .ok (.aload_n 0, 1) := dk_aload_n_0 (by decide +kernel)
theorem dX11_rights_53 : decode cX11_rights 53 = .ok (.iconst 2, 1) := dk_iconst_2 (by decide +kernel)
theorem dX11_rights_54 : decode cX11_rights 54 = .ok (.aload 4, 2) := dk_aload (by decide +kernel)
theorem dX11_rights_56 : decode cX11_rights 56 = .ok (.iload_n 1, 1) := dk_iload_n_1 (by decide +kernel)
theorem dX11_rights_57 : decode cX11_rights 57 = .ok (.invokevirtual 237, 3) := dk_invokevirtual (by decide +kernel)
theorem dX11_rights_60 : decode cX11_rights 60 = .ok (.istore 6, 2) := dk_istore (by decide +kernel)
theorem dX11_rights_62 : decode cX11_rights 62 = .ok (.aload_n 0, 1) := dk_aload_n_0 (by decide +kernel)
theorem dX11_rights_63 : decode cX11_rights 63 = .ok (.getfield 10, 3) := dk_getfield (by decide +kernel)
theorem dX11_rights_66 : decode cX11_rights 66 = .ok (.aload 4, 2) := dk_aload (by decide +kernel)
theorem dX11_rights_68 : decode cX11_rights 68 = .ok (.iload_n 1, 1) := dk_iload_n_1 (by decide +kernel)
theorem dX11_rights_69 : decode cX11_rights 69 = .ok (.iload_n 3, 1) := dk_iload_n_3 (by decide +kernel)
theorem dX11_rights_70 : decode cX11_rights 70 = .ok (.invokevirtual 277, 3) := dk_invokevirtual (by decide +kernel)
theorem dX11_rights_73 : decode cX11_rights 73 = .ok (.aload_n 0, 1) := dk_aload_n_0 (by decide +kernel)
theorem dX11_rights_74 : decode cX11_rights 74 = .ok (.getfield 10, 3) := dk_getfield (by decide +kernel)
theorem dX11_rights_77 : decode cX11_rights 77 = .ok (.iload_n 2, 1) := dk_iload_n_2 (by decide +kernel)
theorem dX11_rights_78 : decode cX11_rights 78 = .ok (.iload 6, 2) := dk_iload (by decide +kernel)
theorem dX11_rights_80 : decode cX11_rights 80 = .ok (.invokevirtual 289, 3) := dk_invokevirtual (by decide +kernel)
theorem dX11_rights_83 : decode cX11_rights 83 = .ok (.ireturn, 1) := dk_ireturn (by decide +kernel)
theorem dX11_mayBreak_0 : decode cX11_mayBreak 0 = .ok (.aload_n 0, 1) := dk_aload_n_0 (by decide +kernel)
theorem dX11_mayBreak_1 : decode cX11_mayBreak 1 = .ok (.iconst 3, 1) := dk_iconst_3 (by decide +kernel)
theorem dX11_mayBreak_2 : decode cX11_mayBreak 2 = .ok (.aload_n 0, 1) := dk_aload_n_0 (by decide +kernel)
theorem dX11_mayBreak_3 : decode cX11_mayBreak 3 = .ok (.getfield 19, 3) := dk_getfield (by decide +kernel)
theorem dX11_mayBreak_6 : decode cX11_mayBreak 6 = .ok (.getfield 71, 3) := dk_getfield (by decide +kernel)
theorem dX11_mayBreak_9 : decode cX11_mayBreak 9 = .ok (.invokevirtual 347, 3) := dk_invokevirtual (by decide +kernel)
theorem dX11_mayBreak_12 : decode cX11_mayBreak 12 = .ok (.astore_n 2, 1) := dk_astore_n_2 (by decide +kernel)
theorem dX11_mayBreak_13 : decode cX11_mayBreak 13 = .ok (.aload_n 2, 1) := dk_aload_n_2 (by decide +kernel)
theorem dX11_mayBreak_14 : decode cX11_mayBreak 14 = .ok (.ifnonnull 5, 3) := dk_ifnonnull (by decide +kernel)
theorem dX11_mayBreak_17 : decode cX11_mayBreak 17 = .ok (.iconst 1, 1) := dk_iconst_1 (by decide +kernel)
theorem dX11_mayBreak_18 : decode cX11_mayBreak 18 = .ok (.ireturn, 1) := dk_ireturn (by decide +kernel)
theorem dX11_mayBreak_19 : decode cX11_mayBreak 19 = .ok (.aload_n 0, 1) := dk_aload_n_0 (by decide +kernel)
theorem dX11_mayBreak_20 : decode cX11_mayBreak 20 = .ok (.getfield 46, 3) := dk_getfield (by decide +kernel)
theorem dX11_mayBreak_23 : decode cX11_mayBreak 23 = .ok (.iconst 2, 1) := dk_iconst_2 (by decide +kernel)
theorem dX11_mayBreak_24 : decode cX11_mayBreak 24 = .ok (.putfield 351, 3) := dk_putfield (by decide +kernel)
theorem dX11_mayBreak_27 : decode cX11_mayBreak 27 = .ok (.aload_n 0, 1) := dk_aload_n_0 (by decide +kernel)
theorem dX11_mayBreak_28 : decode cX11_mayBreak 28 = .ok (.getfield 46, 3) := dk_getfield (by decide +kernel)
theorem dX11_mayBreak_31 : decode cX11_mayBreak 31 = .ok (.aload_n 0, 1) := dk_aload_n_0 (by decide +kernel)
theorem dX11_mayBreak_32 : decode cX11_mayBreak 32 = .ok (.getfield 19, 3) := dk_getfield (by decide +kernel)
theorem dX11_mayBreak_35 : decode cX11_mayBreak 35 = .ok (.getfield 71, 3) := dk_getfield (by decide +kernel)
theorem dX11_mayBreak_38 : decode cX11_mayBreak 38 = .ok (.invokestatic 352, 3) := dk_invokestatic (by decide +kernel)
theorem dX11_mayBreak_41 : decode cX11_mayBreak 41 = .ok (.putfield 355, 3) := dk_putfield (by decide +kernel)
theorem dX11_mayBreak_44 : decode cX11_mayBreak 44 = .ok (.aload_n 0, 1) := dk_aload_n_0 (by decide +kernel)
theorem dX11_mayBreak_45 : decode cX11_mayBreak 45 = .ok (.getfield 46, 3) := dk_getfield (by decide +kernel)
theorem dX11_mayBreak_48 : decode cX11_mayBreak 48 = .ok (.aload_n 1, 1) := dk_aload_n_1 (by decide +kernel)
theorem dX11_mayBreak_49 : decode cX11_mayBreak 49 = .ok (.getfield 176, 3) := dk_getfield (by decide +kernel)
theorem dX11_mayBreak_52 : decode cX11_mayBreak 52 = .ok (.putfield 358, 3) := dk_putfield (by decide +kernel)
theorem dX11_mayBreak_55 : decode cX11_mayBreak 55 = .ok (.aload_n 0, 1) := dk_aload_n_0 (by decide +kernel)
theorem dX11_mayBreak_56 : decode cX11_mayBreak 56 = .ok (.getfield 46, 3) := dk_getfield (by decide +kernel)
theorem dX11_mayBreak_59 : decode cX11_mayBreak 59 = .ok (.iconst 0, 1) := dk_iconst_0 (by decide +kernel)
theorem dX11_mayBreak_60 : decode cX11_mayBreak 60 = .ok (.putfield 359, 3) := dk_putfield (by decide +kernel)
theorem dX11_mayBreak_63 : decode cX11_mayBreak 63 = .ok (.aload_n 0, 1) := dk_aload_n_0 (by decide +kernel)
theorem dX11_mayBreak_64 : decode cX11_mayBreak 64 = .ok (.getfield 46, 3) := dk_getfield (by decide +kernel)
theorem dX11_mayBreak_67 : decode cX11_mayBreak 67 = .ok (.iconst 0, 1) := dk_iconst_0 (by decide +kernel)
theorem dX11_mayBreak_68 : decode cX11_mayBreak 68 = .ok (.putfield 360, 3) := dk_putfield (by decide +kernel)
theorem dX11_mayBreak_71 : decode cX11_mayBreak 71 = .ok (.aload_n 0, 1) := dk_aload_n_0 (by decide +kernel)
theorem dX11_mayBreak_72 : decode cX11_mayBreak 72 = .ok (.getfield 46, 3) := dk_getfield (by decide +kernel)
theorem dX11_mayBreak_75 : decode cX11_mayBreak 75 = .ok (.aload_n 0, 1) := dk_aload_n_0 (by decide +kernel)
theorem dX11_mayBreak_76 : decode cX11_mayBreak 76 = .ok (.getfield 10, 3) := dk_getfield (by decide +kernel)
theorem dX11_mayBreak_79 : decode cX11_mayBreak 79 = .ok (.getfield 76, 3) := dk_getfield (by decide +kernel)
theorem dX11_mayBreak_82 : decode cX11_mayBreak 82 = .ok (.putfield 361, 3) := dk_putfield (by decide +kernel)
theorem dX11_mayBreak_85 : decode cX11_mayBreak 85 = .ok (.aload_n 0, 1) := dk_aload_n_0 (by decide +kernel)
theorem dX11_mayBreak_86 : decode cX11_mayBreak 86 = .ok (.getfield 46, 3) := dk_getfield (by decide +kernel)
theorem dX11_mayBreak_89 : decode cX11_mayBreak 89 = .ok (.iconst 0, 1) := dk_iconst_0 (by decide +kernel)
theorem dX11_mayBreak_90 : decode cX11_mayBreak 90 = .ok (.putfield 362, 3) := dk_putfield (by decide +kernel)
theorem dX11_mayBreak_93 : decode cX11_mayBreak 93 = .ok (.aload_n 0, 1) := dk_aload_n_0 (by decide +kernel)
theorem dX11_mayBreak_94 : decode cX11_mayBreak 94 = .ok (.getfield 46, 3) := dk_getfield (by decide +kernel)
theorem dX11_mayBreak_97 : decode cX11_mayBreak 97 = .ok (.aload_n 0, 1) := dk_aload_n_0 (by decide +kernel)
theorem dX11_mayBreak_98 : decode cX11_mayBreak 98 = .ok (.getfield 10, 3) := dk_getfield (by decide +kernel)
theorem dX11_mayBreak_101 : decode cX11_mayBreak 101 = .ok (.getfield 129, 3) := dk_getfield (by decide +kernel)
theorem dX11_mayBreak_104 : decode cX11_mayBreak 104 = .ok (.invokevirtual 93, 3) := dk_invokevirtual (by decide +kernel)
theorem dX11_mayBreak_107 : decode cX11_mayBreak 107 = .ok (.putfield 365, 3) := dk_putfield (by decide +kernel)
theorem dX11_mayBreak_110 : decode cX11_mayBreak 110 = .ok (.aload_n 0, 1) := dk_aload_n_0 (by decide +kernel)
theorem dX11_mayBreak_111 : decode cX11_mayBreak 111 = .ok (.getfield 46, 3) := dk_getfield (by decide +kernel)
theorem dX11_mayBreak_114 : decode cX11_mayBreak 114 = .ok (.aload_n 2, 1) := dk_aload_n_2 (by decide +kernel)
theorem dX11_mayBreak_115 : decode cX11_mayBreak 115 = .ok (.getfield 367, 3) := dk_getfield (by decide +kernel)
theorem dX11_mayBreak_118 : decode cX11_mayBreak 118 = .ok (.invokevirtual 370, 3) := dk_invokevirtual (by decide +kernel)
theorem dX11_mayBreak_121 : decode cX11_mayBreak 121 = .ok (.ifCond .le 7, 3) := dk_ifCond_le (by decide +kernel)
theorem dX11_mayBreak_124 : decode cX11_mayBreak 124 = .ok (.iconst 1, 1) := dk_iconst_1 (by decide +kernel)
theorem dX11_mayBreak_125 : decode cX11_mayBreak 125 = .ok (.goto 4, 3) := dk_goto (by decide +kernel)
theorem dX11_mayBreak_128 : decode cX11_mayBreak 128 = .ok (.iconst 0, 1) := dk_iconst_0 (by decide +kernel)
theorem dX11_mayBreak_129 : decode cX11_mayBreak 129 = .ok (.ireturn, 1) := dk_ireturn (by decide +kernel)
set_option maxHeartbeats 4000000 in
set_option maxRecDepth 100000 in
theorem c_X11_worthIn (l : Launch) (g : gG) (J : Nat → Nat → Int32) (L : Nat → Nat → Int64) (I : Nat → Nat → Nat → Int32) (P : Nat → Nat → Nat → Option Nat) (E : Nat → Option Nat) (N : Nat → Nat) (dy : List (Nat × Nat)) (sz : Nat) (a0 : Int32) (a1 : Nat) (hma1 : (9, a1) ∈ dy) (a2 : Int32) (hwf : WXF g J P E N dy) : Met l yX11_worthIn (WS yX11_worthIn cX11_worthIn 5 (some .int)) (RM (7) 0 0) (PC g [.ref (g.2.2.1 12), .int a0, .ref a1, .int a2] ((J, L, I, P, E, N), sgX g ++ dy) sz) (va_Qi (fun (r : Int32) (u : (Nat → Nat → Int32) × (Nat → Nat → Nat → Int32)) => True) (fun u t => at_ g (FR g ((J, L, I, P, E, N), sgX g ++ dy) sz) (((hv J [45] [(4, 6), (4, 7), (8, 1), (8, 2), (8, 3), (8, 4), (8, 5), (8, 6), (8, 7), (8, 8), (8, 9)] u.1), L, (hv I [] [(6, 6), (6, 7)] u.2), P, E, N), sgX g ++ dy) t) (FR g ((J, L, I, P, E, N), sgX g ++ dy) sz)) 0 0 (FR g ((J, L, I, P, E, N), sgX g ++ dy) sz) := by
  refine ent (by decide +kernel) (Nat.le_of_ble_eq_true rfl) ?_
  intro p e s m below meth c ls hsz C hW hr hlocks hname hl
  generalize FR g ((J, L, I, P, E, N), sgX g ++ dy) sz = A at C hW ⊢
  have hx := C.1.1
  have hb := C.1.2.1
  have hts := C.1.2.2.2.2
  have hl : lv_has ls 5 [(0, .ref (g.2.2.1 12)), (1, .int a0), (2, .ref a1), (3, .int a2)] := hl
  obtain ⟨H, hH⟩ : ∃ H : Heap, H = s.heap := ⟨_, rfl⟩
  obtain ⟨locs, hlocs⟩ : ∃ q : List Loc, q = [] := ⟨_, rfl⟩
  have hW : WB g A s.heap H locs (J, L, I, P, E, N) (sgX g ++ dy) := by rw [hH, hlocs]; exact hW
  refine start_ hH hlocs ?_
  refine lv_aload_n hx hb dX11_worthIn_0 rfl (lv_at hl 0 rfl) ?_
  refine lv_iload_n hx hb dX11_worthIn_1 rfl (lv_at hl 1 rfl) ?_
  refine lv_iload_n hx hb dX11_worthIn_2 rfl (lv_at hl 3 rfl) ?_
  refine cq_ C hW (runV (x := (g.2.2.1 12)) (As := [.int a0, .int a2]) (rest := []) (T := ((J, L, I, P, E, N), sgX g ++ dy)) C hW (c_X11_inForce l g J L I P E N dy H.size a0 a2 hwf) mi_X11_inForce tw_658 (recv_ (T := ((J, L, I, P, E, N), sgX g ++ dy)) C hW (mx_ rfl) rfl rfl) ⟨rfl, rfl, Nat.le_of_ble_eq_true rfl, Nat.le_of_ble_eq_true rfl⟩ rfl hl.1 rfl (Nat.le_of_ble_eq_true rfl) dX11_worthIn_3 ⟨Nat.le_of_ble_eq_true rfl, Nat.le_of_ble_eq_true rfl⟩) (fun q1 u1 H locs hp1 hW => ?_)
  have hq1 : (q1 = none ∨ (∃ o9 : Nat, q1 = some o9 ∧ (10, o9) ∈ dy)) := hp1
  clear hp1
  have hW : WB g A s.heap H locs (J, L, I, P, E, N) (sgX g ++ dy) := hW
  rcases hq1 with ho1 | ⟨o1, ho1, hm1⟩ <;> subst ho1
  · refine lv_asv (v' := .null) rfl ?_
    refine lv_astoreN (lv' := [(4, .null), (0, .ref (g.2.2.1 12)), (1, .int a0), (2, .ref a1), (3, .int a2)]) hx hb dX11_worthIn_6 hl (by decide) rfl (fun ls hl => ?_)
    refine lv_aloadN hx hb dX11_worthIn_8 (lv_at hl 0 rfl) ?_
    refine lv_ifnullN (tgt := 22) hx hb dX11_worthIn_10 (by decide) ?_
    refine lv_iload_n hx hb dX11_worthIn_22 rfl (lv_at hl 2 rfl) ?_
    refine lv_iconst (v := 2) hx hb dX11_worthIn_23 (by decide) ?_
    refine lv_icmp_eq (tgt := 29) hx hb dX11_worthIn_24 (by decide) (fun c2 => ?_) (fun c2 => ?_)
    · have c2 : a0.toInt = 2 := teq rfl kp2 c2
      refine lv_aload_n hx hb dX11_worthIn_29 rfl (lv_at hl 1 rfl) ?_
      refine rg_12_0 C hW (mx_ rfl) tw_364 dX11_worthIn_30 ?_
      refine lv_aload_n hx hb dX11_worthIn_33 rfl (lv_at hl 3 rfl) ?_
      refine lv_iload_n hx hb dX11_worthIn_34 rfl (lv_at hl 4 rfl) ?_
      refine cv_ C hW (runV (x := (g.2.2.1 4)) (As := [.ref a1, .int a2]) (rest := []) (T := ((J, L, I, P, E, N), sgX g ++ dy)) C hW (c_X3_tally l g J L I P E N dy H.size a1 hma1 a2 hwf) mi_X3_tally tw_712 (recv_ (T := ((J, L, I, P, E, N), sgX g ++ dy)) C hW (mx_ rfl) rfl rfl) ⟨rfl, rfl, Nat.le_of_ble_eq_true rfl, Nat.le_of_ble_eq_true rfl⟩ rfl hl.1 rfl (Nat.le_of_ble_eq_true rfl) dX11_worthIn_35 ⟨Nat.le_of_ble_eq_true rfl, Nat.le_of_ble_eq_true rfl⟩) (fun u3 H locs hp3 hW => ?_)
      have hW : WB g A s.heap H locs ((hv J [] [(4, 6), (4, 7)] u3.1), L, (hv I [] [(6, 6), (6, 7)] u3.2), P, E, N) (sgX g ++ dy) := hW
      refine lv_aload_n hx hb dX11_worthIn_38 rfl (lv_at hl 1 rfl) ?_
      refine rg_12_0 C hW (mx_ rfl) tw_364 dX11_worthIn_39 ?_
      refine rg_4_7 C hW (mx_ rfl) tw_247 dX11_worthIn_42 ?_
      refine lv_topi (fun x4 (e4 : x4 = u3.1 4 7) => ?_)
      have t4 : x4.toInt = (u3.1 4 7).toInt := by rw [e4]
      have hWr : WB g A s.heap H locs ((hv J [45] [(4, 6), (4, 7), (8, 1), (8, 2), (8, 3), (8, 4), (8, 5), (8, 6), (8, 7), (8, 8), (8, 9)] (hv J [] [(4, 6), (4, 7)] u3.1)), L, (hv I [] [(6, 6), (6, 7)] (hv I [] [(6, 6), (6, 7)] u3.2)), P, E, N) (sgX g ++ dy) := by
        rw [← ag_hvE (J := J) (R := [45]) (F := [(4, 6), (4, 7), (8, 1), (8, 2), (8, 3), (8, 4), (8, 5), (8, 6), (8, 7), (8, 8), (8, 9)]) (ag_hv rfl rfl ag_rf)]
        rw [← ag_hvE (J := I) (R := []) (F := [(6, 6), (6, 7)]) (ag_hv rfl rfl ag_rf)]
        exact hW
      exact end_i C hr hlocks ((hv J [] [(4, 6), (4, 7)] u3.1), (hv I [] [(6, 6), (6, 7)] u3.2)) hWr trivial dX11_worthIn_45
    · have c2 : ¬ a0.toInt = 2 := tne rfl kp2 c2
      refine lv_iconst (v := 0) hx hb dX11_worthIn_27 (by decide) ?_
      have hWr : WB g A s.heap H locs ((hv J [45] [(4, 6), (4, 7), (8, 1), (8, 2), (8, 3), (8, 4), (8, 5), (8, 6), (8, 7), (8, 8), (8, 9)] J), L, (hv I [] [(6, 6), (6, 7)] I), P, E, N) (sgX g ++ dy) := by
        rw [← ag_hvE (J := J) (R := [45]) (F := [(4, 6), (4, 7), (8, 1), (8, 2), (8, 3), (8, 4), (8, 5), (8, 6), (8, 7), (8, 8), (8, 9)]) ag_rf]
        rw [← ag_hvE (J := I) (R := []) (F := [(6, 6), (6, 7)]) ag_rf]
        exact hW
      exact end_i C hr hlocks (J, I) hWr trivial dX11_worthIn_28
  · refine lv_asv (v' := .ref o1) rfl ?_
    refine lv_astore (lv' := [(4, .ref o1), (0, .ref (g.2.2.1 12)), (1, .int a0), (2, .ref a1), (3, .int a2)]) hx hb dX11_worthIn_6 hl (by decide) rfl (fun ls hl => ?_)
    refine lv_aload hx hb dX11_worthIn_8 (lv_at hl 0 rfl) ?_
    refine lv_ifnull hx hb dX11_worthIn_10 ?_
    refine lv_aload_n hx hb dX11_worthIn_13 rfl (lv_at hl 1 rfl) ?_
    refine lv_aload hx hb dX11_worthIn_14 (lv_at hl 0 rfl) ?_
    refine lv_aload_n hx hb dX11_worthIn_16 rfl (lv_at hl 3 rfl) ?_
    refine lv_iload_n hx hb dX11_worthIn_17 rfl (lv_at hl 4 rfl) ?_
    refine ci_ C hW (runV (x := (g.2.2.1 12)) (As := [.ref o1, .ref a1, .int a2]) (rest := []) (T := ((J, L, I, P, E, N), sgX g ++ dy)) C hW (c_X11_valueOf l g J L I P E N dy H.size o1 hm1 a1 hma1 a2 hwf) mi_X11_valueOf tw_830 (recv_ (T := ((J, L, I, P, E, N), sgX g ++ dy)) C hW (mx_ rfl) rfl rfl) ⟨rfl, rfl, Nat.le_of_ble_eq_true rfl, Nat.le_of_ble_eq_true rfl⟩ rfl hl.1 rfl (Nat.le_of_ble_eq_true rfl) dX11_worthIn_18 ⟨Nat.le_of_ble_eq_true rfl, Nat.le_of_ble_eq_true rfl⟩) (fun r5 u5 H locs hp5 hW => ?_)
    have hW : WB g A s.heap H locs ((hv J [45] [(4, 6), (4, 7), (8, 1), (8, 2), (8, 3), (8, 4), (8, 5), (8, 6), (8, 7), (8, 8), (8, 9)] u5.1), L, (hv I [] [(6, 6), (6, 7)] u5.2), P, E, N) (sgX g ++ dy) := hW
    have hWr : WB g A s.heap H locs ((hv J [45] [(4, 6), (4, 7), (8, 1), (8, 2), (8, 3), (8, 4), (8, 5), (8, 6), (8, 7), (8, 8), (8, 9)] (hv J [45] [(4, 6), (4, 7), (8, 1), (8, 2), (8, 3), (8, 4), (8, 5), (8, 6), (8, 7), (8, 8), (8, 9)] u5.1)), L, (hv I [] [(6, 6), (6, 7)] (hv I [] [(6, 6), (6, 7)] u5.2)), P, E, N) (sgX g ++ dy) := by
      rw [← ag_hvE (J := J) (R := [45]) (F := [(4, 6), (4, 7), (8, 1), (8, 2), (8, 3), (8, 4), (8, 5), (8, 6), (8, 7), (8, 8), (8, 9)]) (ag_hv rfl rfl ag_rf)]
      rw [← ag_hvE (J := I) (R := []) (F := [(6, 6), (6, 7)]) (ag_hv rfl rfl ag_rf)]
      exact hW
    exact end_i C hr hlocks ((hv J [45] [(4, 6), (4, 7), (8, 1), (8, 2), (8, 3), (8, 4), (8, 5), (8, 6), (8, 7), (8, 8), (8, 9)] u5.1), (hv I [] [(6, 6), (6, 7)] u5.2)) hWr trivial dX11_worthIn_21

set_option maxHeartbeats 4000000 in
set_option maxRecDepth 100000 in
theorem c_X11_rights (l : Launch) (g : gG) (J : Nat → Nat → Int32) (L : Nat → Nat → Int64) (I : Nat → Nat → Nat → Int32) (P : Nat → Nat → Nat → Option Nat) (E : Nat → Option Nat) (N : Nat → Nat) (dy : List (Nat × Nat)) (sz : Nat) (a0 : Int32) (a1 : Int32) (a2 : Int32) (hwf : WXF g J P E N dy) : Met l yX11_rights (WS yX11_rights cX11_rights 7 (some .int)) (RM (8) 0 0) (PC g [.ref (g.2.2.1 12), .int a0, .int a1, .int a2] ((J, L, I, P, E, N), sgX g ++ dy) sz) (va_Qi (fun (r : Int32) (u : (Nat → Nat → Int32) × (Nat → Nat → Int64) × (Nat → Nat → Nat → Int32)) => True) (fun u t => at_ g (FR g ((J, L, I, P, E, N), sgX g ++ dy) sz) (((hv J [42, 45] [(4, 6), (4, 7), (8, 1), (8, 2), (8, 3), (8, 4), (8, 5), (8, 6), (8, 7), (8, 8), (8, 9)] u.1), (hv L [47] [] u.2.1), (hv I [] [(6, 6), (6, 7)] u.2.2), P, E, N), sgX g ++ dy) t) (FR g ((J, L, I, P, E, N), sgX g ++ dy) sz)) 0 0 (FR g ((J, L, I, P, E, N), sgX g ++ dy) sz) := by
  refine ent (by decide +kernel) (Nat.le_of_ble_eq_true rfl) ?_
  intro p e s m below meth c ls hsz C hW hr hlocks hname hl
  generalize FR g ((J, L, I, P, E, N), sgX g ++ dy) sz = A at C hW ⊢
  have hx := C.1.1
  have hb := C.1.2.1
  have hts := C.1.2.2.2.2
  have hl : lv_has ls 7 [(0, .ref (g.2.2.1 12)), (1, .int a0), (2, .int a1), (3, .int a2)] := hl
  obtain ⟨H, hH⟩ : ∃ H : Heap, H = s.heap := ⟨_, rfl⟩
  obtain ⟨locs, hlocs⟩ : ∃ q : List Loc, q = [] := ⟨_, rfl⟩
  have hW : WB g A s.heap H locs (J, L, I, P, E, N) (sgX g ++ dy) := by rw [hH, hlocs]; exact hW
  refine start_ hH hlocs ?_
  refine lv_aload_n hx hb dX11_rights_0 rfl (lv_at hl 0 rfl) ?_
  refine rg_12_1 C hW (mx_ rfl) tw_365 dX11_rights_1 ?_
  refine lv_iload_n hx hb dX11_rights_4 rfl (lv_at hl 1 rfl) ?_
  refine cq_ C hW (runV (x := (g.2.2.1 3)) (As := [.int a0]) (rest := []) (T := ((J, L, I, P, E, N), sgX g ++ dy)) C hW (c_X2_spanOf l g J L I P E N dy H.size a0 hwf) mi_X2_spanOf tw_639 (recv_ (T := ((J, L, I, P, E, N), sgX g ++ dy)) C hW (mx_ rfl) rfl rfl) ⟨rfl, rfl, Nat.le_of_ble_eq_true rfl, Nat.le_of_ble_eq_true rfl⟩ rfl hl.1 rfl (Nat.le_of_ble_eq_true rfl) dX11_rights_5 ⟨Nat.le_of_ble_eq_true rfl, Nat.le_of_ble_eq_true rfl⟩) (fun q1 u1 H locs hp1 hW => ?_)
  have hq1 : (q1 = none ∨ (∃ o9 : Nat, q1 = some o9 ∧ (9, o9) ∈ dy)) := hp1
  clear hp1
  have hW : WB g A s.heap H locs (J, L, I, P, E, N) (sgX g ++ dy) := hW
  rcases hq1 with ho1 | ⟨o1, ho1, hm1⟩ <;> subst ho1
  · refine lv_asv (v' := .null) rfl ?_
    refine lv_astoreN (lv' := [(4, .null), (0, .ref (g.2.2.1 12)), (1, .int a0), (2, .int a1), (3, .int a2)]) hx hb dX11_rights_8 hl (by decide) rfl (fun ls hl => ?_)
    refine lv_aloadN hx hb dX11_rights_10 (lv_at hl 0 rfl) ?_
    refine lv_iload_n hx hb dX11_rights_12 rfl (lv_at hl 3 rfl) ?_
    refine lv_iload_n hx hb dX11_rights_13 rfl (lv_at hl 4 rfl) ?_
    refine ci_ C hW (runS (As := [.null, .int a1, .int a2]) (rest := []) (T := ((J, L, I, P, E, N), sgX g ++ dy)) C hW (c_X11_correctionRefusal_n l g J L I P E N dy H.size a1 a2 ) mi_X11_correctionRefusal tw_899 ⟨rfl, rfl, Nat.le_of_ble_eq_true rfl, Nat.le_of_ble_eq_true rfl⟩ rfl hl.1 rfl (Nat.le_of_ble_eq_true rfl) dX11_rights_14 ⟨Nat.le_of_ble_eq_true rfl, Nat.le_of_ble_eq_true rfl⟩) (fun r2 u2 H locs hp2 hW => ?_)
    have hW : WB g A s.heap H locs (J, L, I, P, E, N) (sgX g ++ dy) := hW
    refine lv_istore (lv' := [(5, .int r2), (4, .null), (0, .ref (g.2.2.1 12)), (1, .int a0), (2, .int a1), (3, .int a2)]) hx hb dX11_rights_17 hl (by decide) rfl (fun ls hl => ?_)
    refine lv_iload hx hb dX11_rights_19 (lv_at hl 0 rfl) ?_
    refine lv_if_ne (tgt := 29) hx hb dX11_rights_21 (by decide) (fun c3 => ?_) (fun c3 => ?_)
    · have c3 : ¬ r2.toInt = 0 := tne rfl kp0 c3
      refine lv_aload_n hx hb dX11_rights_29 rfl (lv_at hl 2 rfl) ?_
      refine lv_iload hx hb dX11_rights_30 (lv_at hl 0 rfl) ?_
      refine ci_ C hW (runV (x := (g.2.2.1 12)) (As := [.int r2]) (rest := []) (T := ((J, L, I, P, E, N), sgX g ++ dy)) C hW (c_X11_refuse l g J L I P E N dy H.size r2 hwf) mi_X11_refuse tw_411 (recv_ (T := ((J, L, I, P, E, N), sgX g ++ dy)) C hW (mx_ rfl) rfl rfl) ⟨rfl, rfl, Nat.le_of_ble_eq_true rfl, Nat.le_of_ble_eq_true rfl⟩ rfl hl.1 rfl (Nat.le_of_ble_eq_true rfl) dX11_rights_32 ⟨Nat.le_of_ble_eq_true rfl, Nat.le_of_ble_eq_true rfl⟩) (fun r4 u4 H locs hp4 hW => ?_)
      have hc4 : ((r4 = r2)) := hp4
      clear hp4
      have hr4 : r4.toInt = (r2).toInt := by rw [hc4]
      have hW : WB g A s.heap H locs ((hv J [42] [] u4), L, I, P, E, N) (sgX g ++ dy) := hW
      have hWr : WB g A s.heap H locs ((hv J [42, 45] [(4, 6), (4, 7), (8, 1), (8, 2), (8, 3), (8, 4), (8, 5), (8, 6), (8, 7), (8, 8), (8, 9)] (hv J [42] [] u4)), (hv L [47] [] L), (hv I [] [(6, 6), (6, 7)] I), P, E, N) (sgX g ++ dy) := by
        rw [← ag_hvE (J := J) (R := [42, 45]) (F := [(4, 6), (4, 7), (8, 1), (8, 2), (8, 3), (8, 4), (8, 5), (8, 6), (8, 7), (8, 8), (8, 9)]) (ag_hv rfl rfl ag_rf)]
        rw [← ag_hvE (J := L) (R := [47]) (F := []) ag_rf]
        rw [← ag_hvE (J := I) (R := []) (F := [(6, 6), (6, 7)]) ag_rf]
        exact hW
      exact end_i C hr hlocks ((hv J [42] [] u4), L, I) hWr trivial dX11_rights_35
    · have c3 : r2.toInt = 0 := teq rfl kp0 c3
      refine lv_aloadN hx hb dX11_rights_24 (lv_at hl 1 rfl) ?_
      refine lv_ifnonnullN hx hb dX11_rights_26 ?_
      refine lv_aload_n hx hb dX11_rights_29 rfl (lv_at hl 2 rfl) ?_
      refine lv_iload hx hb dX11_rights_30 (lv_at hl 0 rfl) ?_
      refine ci_ C hW (runV (x := (g.2.2.1 12)) (As := [.int r2]) (rest := []) (T := ((J, L, I, P, E, N), sgX g ++ dy)) C hW (c_X11_refuse l g J L I P E N dy H.size r2 hwf) mi_X11_refuse tw_411 (recv_ (T := ((J, L, I, P, E, N), sgX g ++ dy)) C hW (mx_ rfl) rfl rfl) ⟨rfl, rfl, Nat.le_of_ble_eq_true rfl, Nat.le_of_ble_eq_true rfl⟩ rfl hl.1 rfl (Nat.le_of_ble_eq_true rfl) dX11_rights_32 ⟨Nat.le_of_ble_eq_true rfl, Nat.le_of_ble_eq_true rfl⟩) (fun r5 u5 H locs hp5 hW => ?_)
      have hc5 : ((r5 = r2)) := hp5
      clear hp5
      have hr5 : r5.toInt = (r2).toInt := by rw [hc5]
      have hW : WB g A s.heap H locs ((hv J [42] [] u5), L, I, P, E, N) (sgX g ++ dy) := hW
      have hWr : WB g A s.heap H locs ((hv J [42, 45] [(4, 6), (4, 7), (8, 1), (8, 2), (8, 3), (8, 4), (8, 5), (8, 6), (8, 7), (8, 8), (8, 9)] (hv J [42] [] u5)), (hv L [47] [] L), (hv I [] [(6, 6), (6, 7)] I), P, E, N) (sgX g ++ dy) := by
        rw [← ag_hvE (J := J) (R := [42, 45]) (F := [(4, 6), (4, 7), (8, 1), (8, 2), (8, 3), (8, 4), (8, 5), (8, 6), (8, 7), (8, 8), (8, 9)]) (ag_hv rfl rfl ag_rf)]
        rw [← ag_hvE (J := L) (R := [47]) (F := []) ag_rf]
        rw [← ag_hvE (J := I) (R := []) (F := [(6, 6), (6, 7)]) ag_rf]
        exact hW
      exact end_i C hr hlocks ((hv J [42] [] u5), L, I) hWr trivial dX11_rights_35
  · refine lv_asv (v' := .ref o1) rfl ?_
    refine lv_astore (lv' := [(4, .ref o1), (0, .ref (g.2.2.1 12)), (1, .int a0), (2, .int a1), (3, .int a2)]) hx hb dX11_rights_8 hl (by decide) rfl (fun ls hl => ?_)
    refine lv_aload hx hb dX11_rights_10 (lv_at hl 0 rfl) ?_
    refine lv_iload_n hx hb dX11_rights_12 rfl (lv_at hl 3 rfl) ?_
    refine lv_iload_n hx hb dX11_rights_13 rfl (lv_at hl 4 rfl) ?_
    refine ci_ C hW (runS (As := [.ref o1, .int a1, .int a2]) (rest := []) (T := ((J, L, I, P, E, N), sgX g ++ dy)) C hW (c_X11_correctionRefusal l g J L I P E N dy H.size o1 hm1 a1 a2 ) mi_X11_correctionRefusal tw_899 ⟨rfl, rfl, Nat.le_of_ble_eq_true rfl, Nat.le_of_ble_eq_true rfl⟩ rfl hl.1 rfl (Nat.le_of_ble_eq_true rfl) dX11_rights_14 ⟨Nat.le_of_ble_eq_true rfl, Nat.le_of_ble_eq_true rfl⟩) (fun r6 u6 H locs hp6 hW => ?_)
    have hW : WB g A s.heap H locs (J, L, I, P, E, N) (sgX g ++ dy) := hW
    refine lv_istore (lv' := [(5, .int r6), (4, .ref o1), (0, .ref (g.2.2.1 12)), (1, .int a0), (2, .int a1), (3, .int a2)]) hx hb dX11_rights_17 hl (by decide) rfl (fun ls hl => ?_)
    refine lv_iload hx hb dX11_rights_19 (lv_at hl 0 rfl) ?_
    refine lv_if_ne (tgt := 29) hx hb dX11_rights_21 (by decide) (fun c7 => ?_) (fun c7 => ?_)
    · have c7 : ¬ r6.toInt = 0 := tne rfl kp0 c7
      refine lv_aload_n hx hb dX11_rights_29 rfl (lv_at hl 2 rfl) ?_
      refine lv_iload hx hb dX11_rights_30 (lv_at hl 0 rfl) ?_
      refine ci_ C hW (runV (x := (g.2.2.1 12)) (As := [.int r6]) (rest := []) (T := ((J, L, I, P, E, N), sgX g ++ dy)) C hW (c_X11_refuse l g J L I P E N dy H.size r6 hwf) mi_X11_refuse tw_411 (recv_ (T := ((J, L, I, P, E, N), sgX g ++ dy)) C hW (mx_ rfl) rfl rfl) ⟨rfl, rfl, Nat.le_of_ble_eq_true rfl, Nat.le_of_ble_eq_true rfl⟩ rfl hl.1 rfl (Nat.le_of_ble_eq_true rfl) dX11_rights_32 ⟨Nat.le_of_ble_eq_true rfl, Nat.le_of_ble_eq_true rfl⟩) (fun r8 u8 H locs hp8 hW => ?_)
      have hc8 : ((r8 = r6)) := hp8
      clear hp8
      have hr8 : r8.toInt = (r6).toInt := by rw [hc8]
      have hW : WB g A s.heap H locs ((hv J [42] [] u8), L, I, P, E, N) (sgX g ++ dy) := hW
      have hWr : WB g A s.heap H locs ((hv J [42, 45] [(4, 6), (4, 7), (8, 1), (8, 2), (8, 3), (8, 4), (8, 5), (8, 6), (8, 7), (8, 8), (8, 9)] (hv J [42] [] u8)), (hv L [47] [] L), (hv I [] [(6, 6), (6, 7)] I), P, E, N) (sgX g ++ dy) := by
        rw [← ag_hvE (J := J) (R := [42, 45]) (F := [(4, 6), (4, 7), (8, 1), (8, 2), (8, 3), (8, 4), (8, 5), (8, 6), (8, 7), (8, 8), (8, 9)]) (ag_hv rfl rfl ag_rf)]
        rw [← ag_hvE (J := L) (R := [47]) (F := []) ag_rf]
        rw [← ag_hvE (J := I) (R := []) (F := [(6, 6), (6, 7)]) ag_rf]
        exact hW
      exact end_i C hr hlocks ((hv J [42] [] u8), L, I) hWr trivial dX11_rights_35
    · have c7 : r6.toInt = 0 := teq rfl kp0 c7
      refine lv_aload hx hb dX11_rights_24 (lv_at hl 1 rfl) ?_
      refine lv_ifnonnull (tgt := 36) hx hb dX11_rights_26 (by decide) ?_
      refine lv_iload_n hx hb dX11_rights_36 rfl (lv_at hl 4 rfl) ?_
      refine ci_ C hW (runS (As := [.int a1]) (rest := []) (T := ((J, L, I, P, E, N), sgX g ++ dy)) C hW (c_J6_bitCount_0f7a4 l g J L I P E N dy H.size a1 ) mi_J6_bitCount_0f7a4 tw_927 ⟨rfl, rfl, Nat.le_of_ble_eq_true rfl, Nat.le_of_ble_eq_true rfl⟩ rfl hl.1 rfl (Nat.le_of_ble_eq_true rfl) dX11_rights_37 ⟨Nat.le_of_ble_eq_true rfl, Nat.le_of_ble_eq_true rfl⟩) (fun r9 u9 H locs hp9 hW => ?_)
      have hW : WB g A s.heap H locs (J, L, I, P, E, N) (sgX g ++ dy) := hW
      refine lv_bipush (v := 12) hx hb dX11_rights_40 (by decide) ?_
      refine lv_icmp_le (tgt := 52) hx hb dX11_rights_42 (by decide) (fun c10 => ?_) (fun c10 => ?_)
      · have c10 : r9.toInt ≤ 12 := tle rfl kp12 c10
        refine lv_aload_n hx hb dX11_rights_52 rfl (lv_at hl 2 rfl) ?_
        refine lv_iconst (v := 2) hx hb dX11_rights_53 (by decide) ?_
        refine lv_aload hx hb dX11_rights_54 (lv_at hl 1 rfl) ?_
        refine lv_iload_n hx hb dX11_rights_56 rfl (lv_at hl 3 rfl) ?_
        refine ci_ C hW (runV (x := (g.2.2.1 12)) (As := [.int 2, .ref o1, .int a0]) (rest := []) (T := ((J, L, I, P, E, N), sgX g ++ dy)) C hW (c_X11_worthIn l g J L I P E N dy H.size 2 o1 hm1 a0 hwf) mi_X11_worthIn tw_826 (recv_ (T := ((J, L, I, P, E, N), sgX g ++ dy)) C hW (mx_ rfl) rfl rfl) ⟨rfl, rfl, Nat.le_of_ble_eq_true rfl, Nat.le_of_ble_eq_true rfl⟩ rfl hl.1 rfl (Nat.le_of_ble_eq_true rfl) dX11_rights_57 ⟨Nat.le_of_ble_eq_true rfl, Nat.le_of_ble_eq_true rfl⟩) (fun r11 u11 H locs hp11 hW => ?_)
        have hW : WB g A s.heap H locs ((hv J [45] [(4, 6), (4, 7), (8, 1), (8, 2), (8, 3), (8, 4), (8, 5), (8, 6), (8, 7), (8, 8), (8, 9)] u11.1), L, (hv I [] [(6, 6), (6, 7)] u11.2), P, E, N) (sgX g ++ dy) := hW
        refine lv_istore (lv' := [(6, .int r11), (5, .int r6), (4, .ref o1), (0, .ref (g.2.2.1 12)), (1, .int a0), (2, .int a1), (3, .int a2)]) hx hb dX11_rights_60 hl (by decide) rfl (fun ls hl => ?_)
        refine lv_aload_n hx hb dX11_rights_62 rfl (lv_at hl 3 rfl) ?_
        refine rg_12_0 C hW (mx_ rfl) tw_364 dX11_rights_63 ?_
        refine lv_aload hx hb dX11_rights_66 (lv_at hl 2 rfl) ?_
        refine lv_iload_n hx hb dX11_rights_68 rfl (lv_at hl 4 rfl) ?_
        refine lv_iload_n hx hb dX11_rights_69 rfl (lv_at hl 6 rfl) ?_
        refine cv_ C hW (runV (x := (g.2.2.1 4)) (As := [.ref o1, .int a0, .int a2]) (rest := []) (T := (((hv J [45] [(4, 6), (4, 7), (8, 1), (8, 2), (8, 3), (8, 4), (8, 5), (8, 6), (8, 7), (8, 8), (8, 9)] u11.1), L, (hv I [] [(6, 6), (6, 7)] u11.2), P, E, N), sgX g ++ dy)) C hW (c_X3_findListeners l g (hv J [45] [(4, 6), (4, 7), (8, 1), (8, 2), (8, 3), (8, 4), (8, 5), (8, 6), (8, 7), (8, 8), (8, 9)] u11.1) L (hv I [] [(6, 6), (6, 7)] u11.2) P E N dy H.size o1 hm1 a0 a2 hwf) mi_X3_findListeners tw_902 (recv_ (T := (((hv J [45] [(4, 6), (4, 7), (8, 1), (8, 2), (8, 3), (8, 4), (8, 5), (8, 6), (8, 7), (8, 8), (8, 9)] u11.1), L, (hv I [] [(6, 6), (6, 7)] u11.2), P, E, N), sgX g ++ dy)) C hW (mx_ rfl) rfl rfl) ⟨rfl, rfl, Nat.le_of_ble_eq_true rfl, Nat.le_of_ble_eq_true rfl⟩ rfl hl.1 rfl (Nat.le_of_ble_eq_true rfl) dX11_rights_70 ⟨Nat.le_of_ble_eq_true rfl, Nat.le_of_ble_eq_true rfl⟩) (fun u12 H locs hp12 hW => ?_)
        have hW : WB g A s.heap H locs ((hv J [45] [(4, 6), (4, 7), (8, 1), (8, 2), (8, 3), (8, 4), (8, 5), (8, 6), (8, 7), (8, 8), (8, 9)] u11.1), (hv L [47] [] u12.1), (hv (hv I [] [(6, 6), (6, 7)] u11.2) [] [(6, 6), (6, 7)] u12.2), P, E, N) (sgX g ++ dy) := hW
        refine lv_aload_n hx hb dX11_rights_73 rfl (lv_at hl 3 rfl) ?_
        refine rg_12_0 C hW (mx_ rfl) tw_364 dX11_rights_74 ?_
        refine lv_iload_n hx hb dX11_rights_77 rfl (lv_at hl 5 rfl) ?_
        refine lv_iload hx hb dX11_rights_78 (lv_at hl 0 rfl) ?_
        refine ci_ C hW (runV (x := (g.2.2.1 4)) (As := [.int a1, .int r11]) (rest := []) (T := (((hv J [45] [(4, 6), (4, 7), (8, 1), (8, 2), (8, 3), (8, 4), (8, 5), (8, 6), (8, 7), (8, 8), (8, 9)] u11.1), (hv L [47] [] u12.1), (hv (hv I [] [(6, 6), (6, 7)] u11.2) [] [(6, 6), (6, 7)] u12.2), P, E, N), sgX g ++ dy)) C hW (c_X3_fewestHours l g (hv J [45] [(4, 6), (4, 7), (8, 1), (8, 2), (8, 3), (8, 4), (8, 5), (8, 6), (8, 7), (8, 8), (8, 9)] u11.1) (hv L [47] [] u12.1) (hv (hv I [] [(6, 6), (6, 7)] u11.2) [] [(6, 6), (6, 7)] u12.2) P E N dy H.size a1 r11 hwf) mi_X3_fewestHours tw_928 (recv_ (T := (((hv J [45] [(4, 6), (4, 7), (8, 1), (8, 2), (8, 3), (8, 4), (8, 5), (8, 6), (8, 7), (8, 8), (8, 9)] u11.1), (hv L [47] [] u12.1), (hv (hv I [] [(6, 6), (6, 7)] u11.2) [] [(6, 6), (6, 7)] u12.2), P, E, N), sgX g ++ dy)) C hW (mx_ rfl) rfl rfl) ⟨rfl, rfl, Nat.le_of_ble_eq_true rfl, Nat.le_of_ble_eq_true rfl⟩ rfl hl.1 rfl (Nat.le_of_ble_eq_true rfl) dX11_rights_80 ⟨Nat.le_of_ble_eq_true rfl, Nat.le_of_ble_eq_true rfl⟩) (fun r13 u13 H locs hp13 hW => ?_)
        have hW : WB g A s.heap H locs ((hv J [45] [(4, 6), (4, 7), (8, 1), (8, 2), (8, 3), (8, 4), (8, 5), (8, 6), (8, 7), (8, 8), (8, 9)] u11.1), (hv L [47] [] u12.1), (hv (hv I [] [(6, 6), (6, 7)] u11.2) [] [(6, 6), (6, 7)] u12.2), P, E, N) (sgX g ++ dy) := hW
        have hWr : WB g A s.heap H locs ((hv J [42, 45] [(4, 6), (4, 7), (8, 1), (8, 2), (8, 3), (8, 4), (8, 5), (8, 6), (8, 7), (8, 8), (8, 9)] (hv J [45] [(4, 6), (4, 7), (8, 1), (8, 2), (8, 3), (8, 4), (8, 5), (8, 6), (8, 7), (8, 8), (8, 9)] u11.1)), (hv L [47] [] (hv L [47] [] u12.1)), (hv I [] [(6, 6), (6, 7)] (hv (hv I [] [(6, 6), (6, 7)] u11.2) [] [(6, 6), (6, 7)] u12.2)), P, E, N) (sgX g ++ dy) := by
          rw [← ag_hvE (J := J) (R := [42, 45]) (F := [(4, 6), (4, 7), (8, 1), (8, 2), (8, 3), (8, 4), (8, 5), (8, 6), (8, 7), (8, 8), (8, 9)]) (ag_hv rfl rfl ag_rf)]
          rw [← ag_hvE (J := L) (R := [47]) (F := []) (ag_hv rfl rfl ag_rf)]
          rw [← ag_hvE (J := I) (R := []) (F := [(6, 6), (6, 7)]) (ag_hv rfl rfl (ag_hv rfl rfl ag_rf))]
          exact hW
        exact end_i C hr hlocks ((hv J [45] [(4, 6), (4, 7), (8, 1), (8, 2), (8, 3), (8, 4), (8, 5), (8, 6), (8, 7), (8, 8), (8, 9)] u11.1), (hv L [47] [] u12.1), (hv (hv I [] [(6, 6), (6, 7)] u11.2) [] [(6, 6), (6, 7)] u12.2)) hWr trivial dX11_rights_83
      · have c10 : 12 < r9.toInt := tnle rfl kp12 c10
        refine lv_aload_n hx hb dX11_rights_45 rfl (lv_at hl 2 rfl) ?_
        refine lv_bipush (v := (-6)) hx hb dX11_rights_46 (by decide) ?_
        refine ci_ C hW (runV (x := (g.2.2.1 12)) (As := [.int (-6)]) (rest := []) (T := ((J, L, I, P, E, N), sgX g ++ dy)) C hW (c_X11_refuse l g J L I P E N dy H.size (-6) hwf) mi_X11_refuse tw_411 (recv_ (T := ((J, L, I, P, E, N), sgX g ++ dy)) C hW (mx_ rfl) rfl rfl) ⟨rfl, rfl, Nat.le_of_ble_eq_true rfl, Nat.le_of_ble_eq_true rfl⟩ rfl hl.1 rfl (Nat.le_of_ble_eq_true rfl) dX11_rights_48 ⟨Nat.le_of_ble_eq_true rfl, Nat.le_of_ble_eq_true rfl⟩) (fun r14 u14 H locs hp14 hW => ?_)
        have hc14 : ((r14 = (-6))) := hp14
        clear hp14
        have hr14 : r14.toInt = (-6) := by rw [hc14]; exact kn6
        have hW : WB g A s.heap H locs ((hv J [42] [] u14), L, I, P, E, N) (sgX g ++ dy) := hW
        have hWr : WB g A s.heap H locs ((hv J [42, 45] [(4, 6), (4, 7), (8, 1), (8, 2), (8, 3), (8, 4), (8, 5), (8, 6), (8, 7), (8, 8), (8, 9)] (hv J [42] [] u14)), (hv L [47] [] L), (hv I [] [(6, 6), (6, 7)] I), P, E, N) (sgX g ++ dy) := by
          rw [← ag_hvE (J := J) (R := [42, 45]) (F := [(4, 6), (4, 7), (8, 1), (8, 2), (8, 3), (8, 4), (8, 5), (8, 6), (8, 7), (8, 8), (8, 9)]) (ag_hv rfl rfl ag_rf)]
          rw [← ag_hvE (J := L) (R := [47]) (F := []) ag_rf]
          rw [← ag_hvE (J := I) (R := []) (F := [(6, 6), (6, 7)]) ag_rf]
          exact hW
        exact end_i C hr hlocks ((hv J [42] [] u14), L, I) hWr trivial dX11_rights_51
