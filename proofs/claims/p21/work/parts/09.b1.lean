theorem dX11_advert_0 : decode cX11_advert 0 = .ok (.iload_n 1, 1) := dk_iload_n_1 (by decide +kernel)
theorem dX11_advert_1 : decode cX11_advert 1 = .ok (.ifCond .ge 10, 3) := dk_ifCond_ge (by decide +kernel)
theorem dX11_advert_4 : decode cX11_advert 4 = .ok (.aload_n 0, 1) := dk_aload_n_0 (by decide +kernel)
theorem dX11_advert_5 : decode cX11_advert 5 = .ok (.bipush (-4), 2) := dk_bipush (by decide +kernel)
theorem dX11_advert_7 : decode cX11_advert 7 = .ok (.invokevirtual 67, 3) := dk_invokevirtual (by decide +kernel)
theorem dX11_advert_10 : decode cX11_advert 10 = .ok (.ireturn, 1) := dk_ireturn (by decide +kernel)
theorem dX11_advert_11 : decode cX11_advert 11 = .ok (.iload_n 1, 1) := dk_iload_n_1 (by decide +kernel)
theorem dX11_advert_12 : decode cX11_advert 12 = .ok (.bipush 9, 2) := dk_bipush (by decide +kernel)
theorem dX11_advert_14 : decode cX11_advert 14 = .ok (.if_icmp .gt 15, 3) := dk_if_icmp_gt (by decide +kernel)
theorem dX11_advert_17 : decode cX11_advert 17 = .ok (.aload_n 0, 1) := dk_aload_n_0 (by decide +kernel)
theorem dX11_advert_18 : decode cX11_advert 18 = .ok (.getfield 312, 3) := dk_getfield (by decide +kernel)
theorem dX11_advert_21 : decode cX11_advert 21 = .ok (.aload_n 0, 1) := dk_aload_n_0 (by decide +kernel)
theorem dX11_advert_22 : decode cX11_advert 22 = .ok (.getfield 50, 3) := dk_getfield (by decide +kernel)
theorem dX11_advert_25 : decode cX11_advert 25 = .ok (.arraylength, 1) := dk_arraylength (by decide +kernel)
theorem dX11_advert_26 : decode cX11_advert 26 = .ok (.if_icmp .lt 10, 3) := dk_if_icmp_lt (by decide +kernel)
theorem dX11_advert_29 : decode cX11_advert 29 = .ok (.aload_n 0, 1) := dk_aload_n_0 (by decide +kernel)
theorem dX11_advert_30 : decode cX11_advert 30 = .ok (.bipush (-6), 2) := dk_bipush (by decide +kernel)
theorem dX11_advert_32 : decode cX11_advert 32 = .ok (.invokevirtual 67, 3) := dk_invokevirtual (by decide +kernel)
theorem dX11_advert_35 : decode cX11_advert 35 = .ok (.ireturn, 1) := dk_ireturn (by decide +kernel)
theorem dX11_advert_36 : decode cX11_advert 36 = .ok (.aload_n 0, 1) := dk_aload_n_0 (by decide +kernel)
theorem dX11_advert_37 : decode cX11_advert 37 = .ok (.getfield 50, 3) := dk_getfield (by decide +kernel)
theorem dX11_advert_40 : decode cX11_advert 40 = .ok (.aload_n 0, 1) := dk_aload_n_0 (by decide +kernel)
theorem dX11_advert_41 : decode cX11_advert 41 = .ok (.getfield 312, 3) := dk_getfield (by decide +kernel)
theorem dX11_advert_44 : decode cX11_advert 44 = .ok (.iload_n 1, 1) := dk_iload_n_1 (by decide +kernel)
theorem dX11_advert_45 : decode cX11_advert 45 = .ok (.iastore, 1) := dk_iastore (by decide +kernel)
theorem dX11_advert_46 : decode cX11_advert 46 = .ok (.aload_n 0, 1) := dk_aload_n_0 (by decide +kernel)
theorem dX11_advert_47 : decode cX11_advert 47 = .ok (.getfield 312, 3) := dk_getfield (by decide +kernel)
theorem dX11_advert_50 : decode cX11_advert 50 = .ok (.iconst 5, 1) := dk_iconst_5 (by decide +kernel)
theorem dX11_advert_51 : decode cX11_advert 51 = .ok (.idiv, 1) := dk_idiv (by decide +kernel)
theorem dX11_advert_52 : decode cX11_advert 52 = .ok (.istore_n 2, 1) := dk_istore_n_2 (by decide +kernel)
theorem dX11_advert_53 : decode cX11_advert 53 = .ok (.aload_n 0, 1) := dk_aload_n_0 (by decide +kernel)
theorem dX11_advert_54 : decode cX11_advert 54 = .ok (.dup, 1) := dk_dup (by decide +kernel)
theorem dX11_advert_55 : decode cX11_advert 55 = .ok (.getfield 312, 3) := dk_getfield (by decide +kernel)
theorem dX11_advert_58 : decode cX11_advert 58 = .ok (.iconst 1, 1) := dk_iconst_1 (by decide +kernel)
theorem dX11_advert_59 : decode cX11_advert 59 = .ok (.iadd, 1) := dk_iadd (by decide +kernel)
theorem dX11_advert_60 : decode cX11_advert 60 = .ok (.putfield 312, 3) := dk_putfield (by decide +kernel)
theorem dX11_advert_63 : decode cX11_advert 63 = .ok (.iload_n 2, 1) := dk_iload_n_2 (by decide +kernel)
theorem dX11_advert_64 : decode cX11_advert 64 = .ok (.ireturn, 1) := dk_ireturn (by decide +kernel)
theorem dX11_order_0 : decode cX11_order 0 = .ok (.iload_n 1, 1) := dk_iload_n_1 (by decide +kernel)
theorem dX11_order_1 : decode cX11_order 1 = .ok (.ifCond .lt 16, 3) := dk_ifCond_lt (by decide +kernel)
theorem dX11_order_4 : decode cX11_order 4 = .ok (.iload_n 2, 1) := dk_iload_n_2 (by decide +kernel)
theorem dX11_order_5 : decode cX11_order 5 = .ok (.ifCond .lt 12, 3) := dk_ifCond_lt (by decide +kernel)
theorem dX11_order_8 : decode cX11_order 8 = .ok (.iload_n 3, 1) := dk_iload_n_3 (by decide +kernel)
theorem dX11_order_9 : decode cX11_order 9 = .ok (.ifCond .lt 8, 3) := dk_ifCond_lt (by decide +kernel)
theorem dX11_order_12 : decode cX11_order 12 = .ok (.iload 4, 2) := dk_iload (by decide +kernel)
theorem dX11_order_14 : decode cX11_order 14 = .ok (.ifCond .ge 10, 3) := dk_ifCond_ge (by decide +kernel)
theorem dX11_order_17 : decode cX11_order 17 = .ok (.aload_n 0, 1) := dk_aload_n_0 (by decide +kernel)
theorem dX11_order_18 : decode cX11_order 18 = .ok (.bipush (-4), 2) := dk_bipush (by decide +kernel)
theorem dX11_order_20 : decode cX11_order 20 = .ok (.invokevirtual 67, 3) := dk_invokevirtual (by decide +kernel)
theorem dX11_order_23 : decode cX11_order 23 = .ok (.ireturn, 1) := dk_ireturn (by decide +kernel)
theorem dX11_order_24 : decode cX11_order 24 = .ok (.iload 4, 2) := dk_iload (by decide +kernel)
theorem dX11_order_26 : decode cX11_order 26 = .ok (.bipush 100, 2) := dk_bipush (by decide +kernel)
theorem dX11_order_28 : decode cX11_order 28 = .ok (.idiv, 1) := dk_idiv (by decide +kernel)
theorem dX11_order_29 : decode cX11_order 29 = .ok (.istore 5, 2) := dk_istore (by decide +kernel)
theorem dX11_order_31 : decode cX11_order 31 = .ok (.iload 4, 2) := dk_iload (by decide +kernel)
theorem dX11_order_33 : decode cX11_order 33 = .ok (.bipush 10, 2) := dk_bipush (by decide +kernel)
theorem dX11_order_35 : decode cX11_order 35 = .ok (.idiv, 1) := dk_idiv (by decide +kernel)
theorem dX11_order_36 : decode cX11_order 36 = .ok (.bipush 10, 2) := dk_bipush (by decide +kernel)
theorem dX11_order_38 : decode cX11_order 38 = .ok (.irem, 1) := dk_irem (by decide +kernel)
theorem dX11_order_39 : decode cX11_order 39 = .ok (.istore 6, 2) := dk_istore (by decide +kernel)
theorem dX11_order_41 : decode cX11_order 41 = .ok (.iload 4, 2) := dk_iload (by decide +kernel)
theorem dX11_order_43 : decode cX11_order 43 = .ok (.bipush 10, 2) := dk_bipush (by decide +kernel)
theorem dX11_order_45 : decode cX11_order 45 = .ok (.irem, 1) := dk_irem (by decide +kernel)
theorem dX11_order_46 : decode cX11_order 46 = .ok (.istore 7, 2) := dk_istore (by decide +kernel)
theorem dX11_order_48 : decode cX11_order 48 = .ok (.iload_n 1, 1) := dk_iload_n_1 (by decide +kernel)
theorem dX11_order_49 : decode cX11_order 49 = .ok (.bipush 9, 2) := dk_bipush (by decide +kernel)
theorem dX11_order_51 : decode cX11_order 51 = .ok (.if_icmp .gt 15, 3) := dk_if_icmp_gt (by decide +kernel)
theorem dX11_order_54 : decode cX11_order 54 = .ok (.iload_n 2, 1) := dk_iload_n_2 (by decide +kernel)
theorem dX11_order_55 : decode cX11_order 55 = .ok (.bipush 9, 2) := dk_bipush (by decide +kernel)
theorem dX11_order_57 : decode cX11_order 57 = .ok (.if_icmp .gt 9, 3) := dk_if_icmp_gt (by decide +kernel)
theorem dX11_order_60 : decode cX11_order 60 = .ok (.iload_n 3, 1) := dk_iload_n_3 (by decide +kernel)
theorem dX11_order_61 : decode cX11_order 61 = .ok (.bipush 9, 2) := dk_bipush (by decide +kernel)
theorem dX11_order_63 : decode cX11_order 63 = .ok (.if_icmp .le 10, 3) := dk_if_icmp_le (by decide +kernel)
theorem dX11_order_66 : decode cX11_order 66 = .ok (.aload_n 0, 1) := dk_aload_n_0 (by decide +kernel)
theorem dX11_order_67 : decode cX11_order 67 = .ok (.bipush (-6), 2) := dk_bipush (by decide +kernel)
theorem dX11_order_69 : decode cX11_order 69 = .ok (.invokevirtual 67, 3) := dk_invokevirtual (by decide +kernel)
theorem dX11_order_72 : decode cX11_order 72 = .ok (.ireturn, 1) := dk_ireturn (by decide +kernel)
theorem dX11_order_73 : decode cX11_order 73 = .ok (.iload 5, 2) := dk_iload (by decide +kernel)
theorem dX11_order_75 : decode cX11_order 75 = .ok (.iconst 5, 1) := dk_iconst_5 (by decide +kernel)
theorem dX11_order_76 : decode cX11_order 76 = .ok (.if_icmp .gt 15, 3) := dk_if_icmp_gt (by decide +kernel)
theorem dX11_order_79 : decode cX11_order 79 = .ok (.iload 6, 2) := dk_iload (by decide +kernel)
theorem dX11_order_81 : decode cX11_order 81 = .ok (.iconst 5, 1) := dk_iconst_5 (by decide +kernel)
theorem dX11_order_82 : decode cX11_order 82 = .ok (.if_icmp .gt 9, 3) := dk_if_icmp_gt (by decide +kernel)
theorem dX11_order_85 : decode cX11_order 85 = .ok (.iload 7, 2) := dk_iload (by decide +kernel)
theorem dX11_order_87 : decode cX11_order 87 = .ok (.iconst 5, 1) := dk_iconst_5 (by decide +kernel)
theorem dX11_order_88 : decode cX11_order 88 = .ok (.if_icmp .le 10, 3) := dk_if_icmp_le (by decide +kernel)
theorem dX11_order_91 : decode cX11_order 91 = .ok (.aload_n 0, 1) := dk_aload_n_0 (by decide +kernel)
theorem dX11_order_92 : decode cX11_order 92 = .ok (.bipush (-6), 2) := dk_bipush (by decide +kernel)
theorem dX11_order_94 : decode cX11_order 94 = .ok (.invokevirtual 67, 3) := dk_invokevirtual (by decide +kernel)
theorem dX11_order_97 : decode cX11_order 97 = .ok (.ireturn, 1) := dk_ireturn (by decide +kernel)
theorem dX11_order_98 : decode cX11_order 98 = .ok (.iload 5, 2) := dk_iload (by decide +kernel)
theorem dX11_order_100 : decode cX11_order 100 = .ok (.iload 6, 2) := dk_iload (by decide +kernel)
theorem dX11_order_102 : decode cX11_order 102 = .ok (.iadd, 1) := dk_iadd (by decide +kernel)
theorem dX11_order_103 : decode cX11_order 103 = .ok (.iload 7, 2) := dk_iload (by decide +kernel)
theorem dX11_order_105 : decode cX11_order 105 = .ok (.iadd, 1) := dk_iadd (by decide +kernel)
theorem dX11_order_106 : decode cX11_order 106 = .ok (.iconst 5, 1) := dk_iconst_5 (by decide +kernel)
theorem dX11_order_107 : decode cX11_order 107 = .ok (.if_icmp .ne 18, 3) := dk_if_icmp_ne (by decide +kernel)
theorem dX11_order_110 : decode cX11_order 110 = .ok (.iload_n 1, 1) := dk_iload_n_1 (by decide +kernel)
theorem dX11_order_111 : decode cX11_order 111 = .ok (.iload_n 2, 1) := dk_iload_n_2 (by decide +kernel)
theorem dX11_order_112 : decode cX11_order 112 = .ok (.if_icmp .eq 13, 3) := dk_if_icmp_eq (by decide +kernel)
theorem dX11_order_115 : decode cX11_order 115 = .ok (.iload_n 1, 1) := dk_iload_n_1 (by decide +kernel)
theorem dX11_order_116 : decode cX11_order 116 = .ok (.iload_n 3, 1) := dk_iload_n_3 (by decide +kernel)
theorem dX11_order_117 : decode cX11_order 117 = .ok (.if_icmp .eq 8, 3) := dk_if_icmp_eq (by decide +kernel)
theorem dX11_order_120 : decode cX11_order 120 = .ok (.iload_n 2, 1) := dk_iload_n_2 (by decide +kernel)
theorem dX11_order_121 : decode cX11_order 121 = .ok (.iload_n 3, 1) := dk_iload_n_3 (by decide +kernel)
theorem dX11_order_122 : decode cX11_order 122 = .ok (.if_icmp .ne 10, 3) := dk_if_icmp_ne (by decide +kernel)
theorem dX11_order_125 : decode cX11_order 125 = .ok (.aload_n 0, 1) := dk_aload_n_0 (by decide +kernel)
theorem dX11_order_126 : decode cX11_order 126 = .ok (.bipush (-3), 2) := dk_bipush (by decide +kernel)
theorem dX11_order_128 : decode cX11_order 128 = .ok (.invokevirtual 67, 3) := dk_invokevirtual (by decide +kernel)
theorem dX11_order_131 : decode cX11_order 131 = .ok (.ireturn, 1) := dk_ireturn (by decide +kernel)
theorem dX11_order_132 : decode cX11_order 132 = .ok (.bipush 10, 2) := dk_bipush (by decide +kernel)
theorem dX11_order_134 : decode cX11_order 134 = .ok (.iload_n 1, 1) := dk_iload_n_1 (by decide +kernel)
theorem dX11_order_135 : decode cX11_order 135 = .ok (.imul, 1) := dk_imul (by decide +kernel)
theorem dX11_order_136 : decode cX11_order 136 = .ok (.iload 5, 2) := dk_iload (by decide +kernel)
theorem dX11_order_138 : decode cX11_order 138 = .ok (.iadd, 1) := dk_iadd (by decide +kernel)
theorem dX11_order_139 : decode cX11_order 139 = .ok (.bipush 10, 2) := dk_bipush (by decide +kernel)
theorem dX11_order_141 : decode cX11_order 141 = .ok (.iload_n 2, 1) := dk_iload_n_2 (by decide +kernel)
theorem dX11_order_142 : decode cX11_order 142 = .ok (.imul, 1) := dk_imul (by decide +kernel)
theorem dX11_order_143 : decode cX11_order 143 = .ok (.iload 6, 2) := dk_iload (by decide +kernel)
theorem dX11_order_145 : decode cX11_order 145 = .ok (.iadd, 1) := dk_iadd (by decide +kernel)
theorem dX11_order_146 : decode cX11_order 146 = .ok (.bipush 10, 2) := dk_bipush (by decide +kernel)
theorem dX11_order_148 : decode cX11_order 148 = .ok (.iload_n 3, 1) := dk_iload_n_3 (by decide +kernel)
theorem dX11_order_149 : decode cX11_order 149 = .ok (.imul, 1) := dk_imul (by decide +kernel)
theorem dX11_order_150 : decode cX11_order 150 = .ok (.iload 7, 2) := dk_iload (by decide +kernel)
theorem dX11_order_152 : decode cX11_order 152 = .ok (.iadd, 1) := dk_iadd (by decide +kernel)
theorem dX11_order_153 : decode cX11_order 153 = .ok (.invokestatic 318, 3) := dk_invokestatic (by decide +kernel)
theorem dX11_order_156 : decode cX11_order 156 = .ok (.ireturn, 1) := dk_ireturn (by decide +kernel)
set_option maxHeartbeats 4000000 in
set_option maxRecDepth 100000 in
theorem c_X11_order (l : Launch) (g : gG) (J : Nat → Nat → Int32) (L : Nat → Nat → Int64) (I : Nat → Nat → Nat → Int32) (P : Nat → Nat → Nat → Option Nat) (E : Nat → Option Nat) (N : Nat → Nat) (dy : List (Nat × Nat)) (sz : Nat) (a0 : Int32) (a1 : Int32) (a2 : Int32) (a3 : Int32) (hwf : WXF g J P E N dy) : Met l yX11_order (WS yX11_order cX11_order 8 (some .int)) (RM (3) 0 0) (PC g [.ref (g.2.2.1 12), .int a0, .int a1, .int a2, .int a3] ((J, L, I, P, E, N), sgX g ++ dy) sz) (va_Qi (fun (r : Int32) (u : (Nat → Nat → Int32)) => True) (fun u t => at_ g (FR g ((J, L, I, P, E, N), sgX g ++ dy) sz) (((hv J [42] [] u), L, I, P, E, N), sgX g ++ dy) t) (FR g ((J, L, I, P, E, N), sgX g ++ dy) sz)) 0 0 (FR g ((J, L, I, P, E, N), sgX g ++ dy) sz) := by
  refine ent (by decide +kernel) (Nat.le_of_ble_eq_true rfl) ?_
  intro p e s m below meth c ls hsz C hW hr hlocks hname hl
  generalize FR g ((J, L, I, P, E, N), sgX g ++ dy) sz = A at C hW ⊢
  have hx := C.1.1
  have hb := C.1.2.1
  have hts := C.1.2.2.2.2
  have hl : lv_has ls 8 [(0, .ref (g.2.2.1 12)), (1, .int a0), (2, .int a1), (3, .int a2), (4, .int a3)] := hl
  obtain ⟨H, hH⟩ : ∃ H : Heap, H = s.heap := ⟨_, rfl⟩
  obtain ⟨locs, hlocs⟩ : ∃ q : List Loc, q = [] := ⟨_, rfl⟩
  have hW : WB g A s.heap H locs (J, L, I, P, E, N) (sgX g ++ dy) := by rw [hH, hlocs]; exact hW
  refine start_ hH hlocs ?_
  refine lv_iload_n hx hb dX11_order_0 rfl (lv_at hl 1 rfl) ?_
  refine lv_if_lt (tgt := 17) hx hb dX11_order_1 (by decide) (fun c1 => ?_) (fun c1 => ?_)
  · have c1 : a0.toInt < 0 := tlt rfl kp0 c1
    refine lv_aload_n hx hb dX11_order_17 rfl (lv_at hl 0 rfl) ?_
    refine lv_bipush (v := (-4)) hx hb dX11_order_18 (by decide) ?_
    refine ci_ C hW (runV (x := (g.2.2.1 12)) (As := [.int (-4)]) (rest := []) (T := ((J, L, I, P, E, N), sgX g ++ dy)) C hW (c_X11_refuse l g J L I P E N dy H.size (-4) hwf) mi_X11_refuse tw_411 (recv_ (T := ((J, L, I, P, E, N), sgX g ++ dy)) C hW (mx_ rfl) rfl rfl) ⟨rfl, rfl, Nat.le_of_ble_eq_true rfl, Nat.le_of_ble_eq_true rfl⟩ rfl hl.1 rfl (Nat.le_of_ble_eq_true rfl) dX11_order_20 ⟨Nat.le_of_ble_eq_true rfl, Nat.le_of_ble_eq_true rfl⟩) (fun r2 u2 H locs hp2 hW => ?_)
    have hc2 : ((r2 = (-4))) := hp2
    clear hp2
    have hr2 : r2.toInt = (-4) := by rw [hc2]; exact kn4
    have hW : WB g A s.heap H locs ((hv J [42] [] u2), L, I, P, E, N) (sgX g ++ dy) := hW
    have hWr : WB g A s.heap H locs ((hv J [42] [] (hv J [42] [] u2)), L, I, P, E, N) (sgX g ++ dy) := by
      rw [← ag_hvE (J := J) (R := [42]) (F := []) (ag_hv rfl rfl ag_rf)]
      exact hW
    exact end_i C hr hlocks (hv J [42] [] u2) hWr trivial dX11_order_23
  · have c1 : 0 ≤ a0.toInt := tnlt rfl kp0 c1
    refine lv_iload_n hx hb dX11_order_4 rfl (lv_at hl 2 rfl) ?_
    refine lv_if_lt (tgt := 17) hx hb dX11_order_5 (by decide) (fun c3 => ?_) (fun c3 => ?_)
    · have c3 : a1.toInt < 0 := tlt rfl kp0 c3
      refine lv_aload_n hx hb dX11_order_17 rfl (lv_at hl 0 rfl) ?_
      refine lv_bipush (v := (-4)) hx hb dX11_order_18 (by decide) ?_
      refine ci_ C hW (runV (x := (g.2.2.1 12)) (As := [.int (-4)]) (rest := []) (T := ((J, L, I, P, E, N), sgX g ++ dy)) C hW (c_X11_refuse l g J L I P E N dy H.size (-4) hwf) mi_X11_refuse tw_411 (recv_ (T := ((J, L, I, P, E, N), sgX g ++ dy)) C hW (mx_ rfl) rfl rfl) ⟨rfl, rfl, Nat.le_of_ble_eq_true rfl, Nat.le_of_ble_eq_true rfl⟩ rfl hl.1 rfl (Nat.le_of_ble_eq_true rfl) dX11_order_20 ⟨Nat.le_of_ble_eq_true rfl, Nat.le_of_ble_eq_true rfl⟩) (fun r4 u4 H locs hp4 hW => ?_)
      have hc4 : ((r4 = (-4))) := hp4
      clear hp4
      have hr4 : r4.toInt = (-4) := by rw [hc4]; exact kn4
      have hW : WB g A s.heap H locs ((hv J [42] [] u4), L, I, P, E, N) (sgX g ++ dy) := hW
      have hWr : WB g A s.heap H locs ((hv J [42] [] (hv J [42] [] u4)), L, I, P, E, N) (sgX g ++ dy) := by
        rw [← ag_hvE (J := J) (R := [42]) (F := []) (ag_hv rfl rfl ag_rf)]
        exact hW
      exact end_i C hr hlocks (hv J [42] [] u4) hWr trivial dX11_order_23
    · have c3 : 0 ≤ a1.toInt := tnlt rfl kp0 c3
      refine lv_iload_n hx hb dX11_order_8 rfl (lv_at hl 3 rfl) ?_
      refine lv_if_lt (tgt := 17) hx hb dX11_order_9 (by decide) (fun c5 => ?_) (fun c5 => ?_)
      · have c5 : a2.toInt < 0 := tlt rfl kp0 c5
        refine lv_aload_n hx hb dX11_order_17 rfl (lv_at hl 0 rfl) ?_
        refine lv_bipush (v := (-4)) hx hb dX11_order_18 (by decide) ?_
        refine ci_ C hW (runV (x := (g.2.2.1 12)) (As := [.int (-4)]) (rest := []) (T := ((J, L, I, P, E, N), sgX g ++ dy)) C hW (c_X11_refuse l g J L I P E N dy H.size (-4) hwf) mi_X11_refuse tw_411 (recv_ (T := ((J, L, I, P, E, N), sgX g ++ dy)) C hW (mx_ rfl) rfl rfl) ⟨rfl, rfl, Nat.le_of_ble_eq_true rfl, Nat.le_of_ble_eq_true rfl⟩ rfl hl.1 rfl (Nat.le_of_ble_eq_true rfl) dX11_order_20 ⟨Nat.le_of_ble_eq_true rfl, Nat.le_of_ble_eq_true rfl⟩) (fun r6 u6 H locs hp6 hW => ?_)
        have hc6 : ((r6 = (-4))) := hp6
        clear hp6
        have hr6 : r6.toInt = (-4) := by rw [hc6]; exact kn4
        have hW : WB g A s.heap H locs ((hv J [42] [] u6), L, I, P, E, N) (sgX g ++ dy) := hW
        have hWr : WB g A s.heap H locs ((hv J [42] [] (hv J [42] [] u6)), L, I, P, E, N) (sgX g ++ dy) := by
          rw [← ag_hvE (J := J) (R := [42]) (F := []) (ag_hv rfl rfl ag_rf)]
          exact hW
        exact end_i C hr hlocks (hv J [42] [] u6) hWr trivial dX11_order_23
      · have c5 : 0 ≤ a2.toInt := tnlt rfl kp0 c5
        refine lv_iload hx hb dX11_order_12 (lv_at hl 4 rfl) ?_
        refine lv_if_ge (tgt := 24) hx hb dX11_order_14 (by decide) (fun c7 => ?_) (fun c7 => ?_)
        · have c7 : 0 ≤ a3.toInt := tle kp0 rfl c7
          refine lv_iload hx hb dX11_order_24 (lv_at hl 4 rfl) ?_
          refine lv_bipush (v := 100) hx hb dX11_order_26 (by decide) ?_
          refine lv_idiv hx hb dX11_order_28 (by decide) ?_
          refine lv_topi (fun x8 (e8 : x8 = a3 / 100) => ?_)
          have t8 : x8.toInt = a3.toInt.tdiv 100 := tdiv e8 rfl kp100 (by decide)
          try rw [tdp (a := a3.toInt) (by omega)] at t8
          refine lv_istore (lv' := [(5, .int x8), (0, .ref (g.2.2.1 12)), (1, .int a0), (2, .int a1), (3, .int a2), (4, .int a3)]) hx hb dX11_order_29 hl (by decide) rfl (fun ls hl => ?_)
          refine lv_iload hx hb dX11_order_31 (lv_at hl 5 rfl) ?_
          refine lv_bipush (v := 10) hx hb dX11_order_33 (by decide) ?_
          refine lv_idiv hx hb dX11_order_35 (by decide) ?_
          refine lv_topi (fun x9 (e9 : x9 = a3 / 10) => ?_)
          have t9 : x9.toInt = a3.toInt.tdiv 10 := tdiv e9 rfl kp10 (by decide)
          try rw [tdp (a := a3.toInt) (by omega)] at t9
          refine lv_bipush (v := 10) hx hb dX11_order_36 (by decide) ?_
          refine lv_irem hx hb dX11_order_38 (by decide) ?_
          refine lv_topi (fun x10 (e10 : x10 = x9 - x9 / 10 * 10) => ?_)
          have t10 : x10.toInt = x9.toInt.tmod 10 := tmod e10 rfl kp10 (by decide) (by decide)
          try rw [tmp (a := x9.toInt) (by omega)] at t10
          refine lv_istore (lv' := [(6, .int x10), (5, .int x8), (0, .ref (g.2.2.1 12)), (1, .int a0), (2, .int a1), (3, .int a2), (4, .int a3)]) hx hb dX11_order_39 hl (by decide) rfl (fun ls hl => ?_)
          refine lv_iload hx hb dX11_order_41 (lv_at hl 6 rfl) ?_
          refine lv_bipush (v := 10) hx hb dX11_order_43 (by decide) ?_
          refine lv_irem hx hb dX11_order_45 (by decide) ?_
          refine lv_topi (fun x11 (e11 : x11 = a3 - a3 / 10 * 10) => ?_)
          have t11 : x11.toInt = a3.toInt.tmod 10 := tmod e11 rfl kp10 (by decide) (by decide)
          try rw [tmp (a := a3.toInt) (by omega)] at t11
          refine lv_istore (lv' := [(7, .int x11), (6, .int x10), (5, .int x8), (0, .ref (g.2.2.1 12)), (1, .int a0), (2, .int a1), (3, .int a2), (4, .int a3)]) hx hb dX11_order_46 hl (by decide) rfl (fun ls hl => ?_)
          refine lv_iload_n hx hb dX11_order_48 rfl (lv_at hl 4 rfl) ?_
          refine lv_bipush (v := 9) hx hb dX11_order_49 (by decide) ?_
          refine lv_icmp_gt (tgt := 66) hx hb dX11_order_51 (by decide) (fun c12 => ?_) (fun c12 => ?_)
          · have c12 : 9 < a0.toInt := tlt kp9 rfl c12
            refine lv_aload_n hx hb dX11_order_66 rfl (lv_at hl 3 rfl) ?_
            refine lv_bipush (v := (-6)) hx hb dX11_order_67 (by decide) ?_
            refine ci_ C hW (runV (x := (g.2.2.1 12)) (As := [.int (-6)]) (rest := []) (T := ((J, L, I, P, E, N), sgX g ++ dy)) C hW (c_X11_refuse l g J L I P E N dy H.size (-6) hwf) mi_X11_refuse tw_411 (recv_ (T := ((J, L, I, P, E, N), sgX g ++ dy)) C hW (mx_ rfl) rfl rfl) ⟨rfl, rfl, Nat.le_of_ble_eq_true rfl, Nat.le_of_ble_eq_true rfl⟩ rfl hl.1 rfl (Nat.le_of_ble_eq_true rfl) dX11_order_69 ⟨Nat.le_of_ble_eq_true rfl, Nat.le_of_ble_eq_true rfl⟩) (fun r13 u13 H locs hp13 hW => ?_)
            have hc13 : ((r13 = (-6))) := hp13
            clear hp13
            have hr13 : r13.toInt = (-6) := by rw [hc13]; exact kn6
            have hW : WB g A s.heap H locs ((hv J [42] [] u13), L, I, P, E, N) (sgX g ++ dy) := hW
            have hWr : WB g A s.heap H locs ((hv J [42] [] (hv J [42] [] u13)), L, I, P, E, N) (sgX g ++ dy) := by
              rw [← ag_hvE (J := J) (R := [42]) (F := []) (ag_hv rfl rfl ag_rf)]
              exact hW
            exact end_i C hr hlocks (hv J [42] [] u13) hWr trivial dX11_order_72
          · have c12 : a0.toInt ≤ 9 := tnlt kp9 rfl c12
            refine lv_iload_n hx hb dX11_order_54 rfl (lv_at hl 5 rfl) ?_
            refine lv_bipush (v := 9) hx hb dX11_order_55 (by decide) ?_
            refine lv_icmp_gt (tgt := 66) hx hb dX11_order_57 (by decide) (fun c14 => ?_) (fun c14 => ?_)
            · have c14 : 9 < a1.toInt := tlt kp9 rfl c14
              refine lv_aload_n hx hb dX11_order_66 rfl (lv_at hl 3 rfl) ?_
              refine lv_bipush (v := (-6)) hx hb dX11_order_67 (by decide) ?_
              refine ci_ C hW (runV (x := (g.2.2.1 12)) (As := [.int (-6)]) (rest := []) (T := ((J, L, I, P, E, N), sgX g ++ dy)) C hW (c_X11_refuse l g J L I P E N dy H.size (-6) hwf) mi_X11_refuse tw_411 (recv_ (T := ((J, L, I, P, E, N), sgX g ++ dy)) C hW (mx_ rfl) rfl rfl) ⟨rfl, rfl, Nat.le_of_ble_eq_true rfl, Nat.le_of_ble_eq_true rfl⟩ rfl hl.1 rfl (Nat.le_of_ble_eq_true rfl) dX11_order_69 ⟨Nat.le_of_ble_eq_true rfl, Nat.le_of_ble_eq_true rfl⟩) (fun r15 u15 H locs hp15 hW => ?_)
              have hc15 : ((r15 = (-6))) := hp15
              clear hp15
              have hr15 : r15.toInt = (-6) := by rw [hc15]; exact kn6
              have hW : WB g A s.heap H locs ((hv J [42] [] u15), L, I, P, E, N) (sgX g ++ dy) := hW
              have hWr : WB g A s.heap H locs ((hv J [42] [] (hv J [42] [] u15)), L, I, P, E, N) (sgX g ++ dy) := by
                rw [← ag_hvE (J := J) (R := [42]) (F := []) (ag_hv rfl rfl ag_rf)]
                exact hW
              exact end_i C hr hlocks (hv J [42] [] u15) hWr trivial dX11_order_72
            · have c14 : a1.toInt ≤ 9 := tnlt kp9 rfl c14
              refine lv_iload_n hx hb dX11_order_60 rfl (lv_at hl 6 rfl) ?_
              refine lv_bipush (v := 9) hx hb dX11_order_61 (by decide) ?_
              refine lv_icmp_le (tgt := 73) hx hb dX11_order_63 (by decide) (fun c16 => ?_) (fun c16 => ?_)
              · have c16 : a2.toInt ≤ 9 := tle rfl kp9 c16
                refine lv_iload hx hb dX11_order_73 (lv_at hl 2 rfl) ?_
                refine lv_iconst (v := 5) hx hb dX11_order_75 (by decide) ?_
                refine lv_icmp_gt (tgt := 91) hx hb dX11_order_76 (by decide) (fun c17 => ?_) (fun c17 => ?_)
                · have c17 : 5 < x8.toInt := tlt kp5 rfl c17
                  refine lv_aload_n hx hb dX11_order_91 rfl (lv_at hl 3 rfl) ?_
                  refine lv_bipush (v := (-6)) hx hb dX11_order_92 (by decide) ?_
                  refine ci_ C hW (runV (x := (g.2.2.1 12)) (As := [.int (-6)]) (rest := []) (T := ((J, L, I, P, E, N), sgX g ++ dy)) C hW (c_X11_refuse l g J L I P E N dy H.size (-6) hwf) mi_X11_refuse tw_411 (recv_ (T := ((J, L, I, P, E, N), sgX g ++ dy)) C hW (mx_ rfl) rfl rfl) ⟨rfl, rfl, Nat.le_of_ble_eq_true rfl, Nat.le_of_ble_eq_true rfl⟩ rfl hl.1 rfl (Nat.le_of_ble_eq_true rfl) dX11_order_94 ⟨Nat.le_of_ble_eq_true rfl, Nat.le_of_ble_eq_true rfl⟩) (fun r18 u18 H locs hp18 hW => ?_)
                  have hc18 : ((r18 = (-6))) := hp18
                  clear hp18
                  have hr18 : r18.toInt = (-6) := by rw [hc18]; exact kn6
                  have hW : WB g A s.heap H locs ((hv J [42] [] u18), L, I, P, E, N) (sgX g ++ dy) := hW
                  have hWr : WB g A s.heap H locs ((hv J [42] [] (hv J [42] [] u18)), L, I, P, E, N) (sgX g ++ dy) := by
                    rw [← ag_hvE (J := J) (R := [42]) (F := []) (ag_hv rfl rfl ag_rf)]
                    exact hW
                  exact end_i C hr hlocks (hv J [42] [] u18) hWr trivial dX11_order_97
                · have c17 : x8.toInt ≤ 5 := tnlt kp5 rfl c17
                  refine lv_iload hx hb dX11_order_79 (lv_at hl 1 rfl) ?_
                  refine lv_iconst (v := 5) hx hb dX11_order_81 (by decide) ?_
                  refine lv_icmp_gt (tgt := 91) hx hb dX11_order_82 (by decide) (fun c19 => ?_) (fun c19 => ?_)
                  · have c19 : 5 < x10.toInt := tlt kp5 rfl c19
                    refine lv_aload_n hx hb dX11_order_91 rfl (lv_at hl 3 rfl) ?_
                    refine lv_bipush (v := (-6)) hx hb dX11_order_92 (by decide) ?_
                    refine ci_ C hW (runV (x := (g.2.2.1 12)) (As := [.int (-6)]) (rest := []) (T := ((J, L, I, P, E, N), sgX g ++ dy)) C hW (c_X11_refuse l g J L I P E N dy H.size (-6) hwf) mi_X11_refuse tw_411 (recv_ (T := ((J, L, I, P, E, N), sgX g ++ dy)) C hW (mx_ rfl) rfl rfl) ⟨rfl, rfl, Nat.le_of_ble_eq_true rfl, Nat.le_of_ble_eq_true rfl⟩ rfl hl.1 rfl (Nat.le_of_ble_eq_true rfl) dX11_order_94 ⟨Nat.le_of_ble_eq_true rfl, Nat.le_of_ble_eq_true rfl⟩) (fun r20 u20 H locs hp20 hW => ?_)
                    have hc20 : ((r20 = (-6))) := hp20
                    clear hp20
                    have hr20 : r20.toInt = (-6) := by rw [hc20]; exact kn6
                    have hW : WB g A s.heap H locs ((hv J [42] [] u20), L, I, P, E, N) (sgX g ++ dy) := hW
                    have hWr : WB g A s.heap H locs ((hv J [42] [] (hv J [42] [] u20)), L, I, P, E, N) (sgX g ++ dy) := by
                      rw [← ag_hvE (J := J) (R := [42]) (F := []) (ag_hv rfl rfl ag_rf)]
                      exact hW
                    exact end_i C hr hlocks (hv J [42] [] u20) hWr trivial dX11_order_97
                  · have c19 : x10.toInt ≤ 5 := tnlt kp5 rfl c19
                    refine lv_iload hx hb dX11_order_85 (lv_at hl 0 rfl) ?_
                    refine lv_iconst (v := 5) hx hb dX11_order_87 (by decide) ?_
                    refine lv_icmp_le (tgt := 98) hx hb dX11_order_88 (by decide) (fun c21 => ?_) (fun c21 => ?_)
                    · have c21 : x11.toInt ≤ 5 := tle rfl kp5 c21
                      refine lv_iload hx hb dX11_order_98 (lv_at hl 2 rfl) ?_
                      refine lv_iload hx hb dX11_order_100 (lv_at hl 1 rfl) ?_
                      refine lv_iadd hx hb dX11_order_102 ?_
                      refine lv_topi (fun x22 (e22 : x22 = x8 + x10) => ?_)
                      refine lv_iload hx hb dX11_order_103 (lv_at hl 0 rfl) ?_
                      refine lv_iadd hx hb dX11_order_105 ?_
                      refine lv_topi (fun x23 (e23 : x23 = x22 + x11) => ?_)
                      refine lv_iconst (v := 5) hx hb dX11_order_106 (by decide) ?_
                      refine lv_icmp_ne (tgt := 125) hx hb dX11_order_107 (by decide) (fun c24 => ?_) (fun c24 => ?_)
                      · have c24 : ¬ x23.toInt = 5 := tne rfl kp5 c24
                        refine lv_aload_n hx hb dX11_order_125 rfl (lv_at hl 3 rfl) ?_
                        refine lv_bipush (v := (-3)) hx hb dX11_order_126 (by decide) ?_
                        refine ci_ C hW (runV (x := (g.2.2.1 12)) (As := [.int (-3)]) (rest := []) (T := ((J, L, I, P, E, N), sgX g ++ dy)) C hW (c_X11_refuse l g J L I P E N dy H.size (-3) hwf) mi_X11_refuse tw_411 (recv_ (T := ((J, L, I, P, E, N), sgX g ++ dy)) C hW (mx_ rfl) rfl rfl) ⟨rfl, rfl, Nat.le_of_ble_eq_true rfl, Nat.le_of_ble_eq_true rfl⟩ rfl hl.1 rfl (Nat.le_of_ble_eq_true rfl) dX11_order_128 ⟨Nat.le_of_ble_eq_true rfl, Nat.le_of_ble_eq_true rfl⟩) (fun r25 u25 H locs hp25 hW => ?_)
                        have hc25 : ((r25 = (-3))) := hp25
                        clear hp25
                        have hr25 : r25.toInt = (-3) := by rw [hc25]; exact kn3
                        have hW : WB g A s.heap H locs ((hv J [42] [] u25), L, I, P, E, N) (sgX g ++ dy) := hW
                        have hWr : WB g A s.heap H locs ((hv J [42] [] (hv J [42] [] u25)), L, I, P, E, N) (sgX g ++ dy) := by
                          rw [← ag_hvE (J := J) (R := [42]) (F := []) (ag_hv rfl rfl ag_rf)]
                          exact hW
                        exact end_i C hr hlocks (hv J [42] [] u25) hWr trivial dX11_order_131
                      · have c24 : x23.toInt = 5 := teq rfl kp5 c24
                        refine lv_iload_n hx hb dX11_order_110 rfl (lv_at hl 4 rfl) ?_
                        refine lv_iload_n hx hb dX11_order_111 rfl (lv_at hl 5 rfl) ?_
                        refine lv_icmp_eq (tgt := 125) hx hb dX11_order_112 (by decide) (fun c26 => ?_) (fun c26 => ?_)
                        · have c26 : a0.toInt = a1.toInt := teq rfl rfl c26
                          refine lv_aload_n hx hb dX11_order_125 rfl (lv_at hl 3 rfl) ?_
                          refine lv_bipush (v := (-3)) hx hb dX11_order_126 (by decide) ?_
                          refine ci_ C hW (runV (x := (g.2.2.1 12)) (As := [.int (-3)]) (rest := []) (T := ((J, L, I, P, E, N), sgX g ++ dy)) C hW (c_X11_refuse l g J L I P E N dy H.size (-3) hwf) mi_X11_refuse tw_411 (recv_ (T := ((J, L, I, P, E, N), sgX g ++ dy)) C hW (mx_ rfl) rfl rfl) ⟨rfl, rfl, Nat.le_of_ble_eq_true rfl, Nat.le_of_ble_eq_true rfl⟩ rfl hl.1 rfl (Nat.le_of_ble_eq_true rfl) dX11_order_128 ⟨Nat.le_of_ble_eq_true rfl, Nat.le_of_ble_eq_true rfl⟩) (fun r27 u27 H locs hp27 hW => ?_)
                          have hc27 : ((r27 = (-3))) := hp27
                          clear hp27
                          have hr27 : r27.toInt = (-3) := by rw [hc27]; exact kn3
                          have hW : WB g A s.heap H locs ((hv J [42] [] u27), L, I, P, E, N) (sgX g ++ dy) := hW
                          have hWr : WB g A s.heap H locs ((hv J [42] [] (hv J [42] [] u27)), L, I, P, E, N) (sgX g ++ dy) := by
                            rw [← ag_hvE (J := J) (R := [42]) (F := []) (ag_hv rfl rfl ag_rf)]
                            exact hW
                          exact end_i C hr hlocks (hv J [42] [] u27) hWr trivial dX11_order_131
                        · have c26 : ¬ a0.toInt = a1.toInt := tne rfl rfl c26
                          refine lv_iload_n hx hb dX11_order_115 rfl (lv_at hl 4 rfl) ?_
                          refine lv_iload_n hx hb dX11_order_116 rfl (lv_at hl 6 rfl) ?_
                          refine lv_icmp_eq (tgt := 125) hx hb dX11_order_117 (by decide) (fun c28 => ?_) (fun c28 => ?_)
                          · have c28 : a0.toInt = a2.toInt := teq rfl rfl c28
                            refine lv_aload_n hx hb dX11_order_125 rfl (lv_at hl 3 rfl) ?_
                            refine lv_bipush (v := (-3)) hx hb dX11_order_126 (by decide) ?_
                            refine ci_ C hW (runV (x := (g.2.2.1 12)) (As := [.int (-3)]) (rest := []) (T := ((J, L, I, P, E, N), sgX g ++ dy)) C hW (c_X11_refuse l g J L I P E N dy H.size (-3) hwf) mi_X11_refuse tw_411 (recv_ (T := ((J, L, I, P, E, N), sgX g ++ dy)) C hW (mx_ rfl) rfl rfl) ⟨rfl, rfl, Nat.le_of_ble_eq_true rfl, Nat.le_of_ble_eq_true rfl⟩ rfl hl.1 rfl (Nat.le_of_ble_eq_true rfl) dX11_order_128 ⟨Nat.le_of_ble_eq_true rfl, Nat.le_of_ble_eq_true rfl⟩) (fun r29 u29 H locs hp29 hW => ?_)
                            have hc29 : ((r29 = (-3))) := hp29
                            clear hp29
                            have hr29 : r29.toInt = (-3) := by rw [hc29]; exact kn3
                            have hW : WB g A s.heap H locs ((hv J [42] [] u29), L, I, P, E, N) (sgX g ++ dy) := hW
                            have hWr : WB g A s.heap H locs ((hv J [42] [] (hv J [42] [] u29)), L, I, P, E, N) (sgX g ++ dy) := by
                              rw [← ag_hvE (J := J) (R := [42]) (F := []) (ag_hv rfl rfl ag_rf)]
                              exact hW
                            exact end_i C hr hlocks (hv J [42] [] u29) hWr trivial dX11_order_131
                          · have c28 : ¬ a0.toInt = a2.toInt := tne rfl rfl c28
                            refine lv_iload_n hx hb dX11_order_120 rfl (lv_at hl 5 rfl) ?_
                            refine lv_iload_n hx hb dX11_order_121 rfl (lv_at hl 6 rfl) ?_
                            refine lv_icmp_ne (tgt := 132) hx hb dX11_order_122 (by decide) (fun c30 => ?_) (fun c30 => ?_)
                            · have c30 : ¬ a1.toInt = a2.toInt := tne rfl rfl c30
                              refine lv_bipush (v := 10) hx hb dX11_order_132 (by decide) ?_
                              refine lv_iload_n hx hb dX11_order_134 rfl (lv_at hl 4 rfl) ?_
                              refine lv_imul hx hb dX11_order_135 ?_
                              refine lv_topi (fun x31 (e31 : x31 = 10 * a0) => ?_)
                              refine lv_iload hx hb dX11_order_136 (lv_at hl 2 rfl) ?_
                              refine lv_iadd hx hb dX11_order_138 ?_
                              refine lv_topi (fun x32 (e32 : x32 = x31 + x8) => ?_)
                              refine lv_bipush (v := 10) hx hb dX11_order_139 (by decide) ?_
                              refine lv_iload_n hx hb dX11_order_141 rfl (lv_at hl 5 rfl) ?_
                              refine lv_imul hx hb dX11_order_142 ?_
                              refine lv_topi (fun x33 (e33 : x33 = 10 * a1) => ?_)
                              refine lv_iload hx hb dX11_order_143 (lv_at hl 1 rfl) ?_
                              refine lv_iadd hx hb dX11_order_145 ?_
                              refine lv_topi (fun x34 (e34 : x34 = x33 + x10) => ?_)
                              refine lv_bipush (v := 10) hx hb dX11_order_146 (by decide) ?_
                              refine lv_iload_n hx hb dX11_order_148 rfl (lv_at hl 6 rfl) ?_
                              refine lv_imul hx hb dX11_order_149 ?_
                              refine lv_topi (fun x35 (e35 : x35 = 10 * a2) => ?_)
                              refine lv_iload hx hb dX11_order_150 (lv_at hl 0 rfl) ?_
                              refine lv_iadd hx hb dX11_order_152 ?_
                              refine lv_topi (fun x36 (e36 : x36 = x35 + x11) => ?_)
                              refine ci_ C hW (runS (As := [.int x32, .int x34, .int x36]) (rest := []) (T := ((J, L, I, P, E, N), sgX g ++ dy)) C hW (c_X11_firstFair l g J L I P E N dy H.size x32 x34 x36 ) mi_X11_firstFair tw_994 ⟨rfl, rfl, Nat.le_of_ble_eq_true rfl, Nat.le_of_ble_eq_true rfl⟩ rfl hl.1 rfl (Nat.le_of_ble_eq_true rfl) dX11_order_153 ⟨Nat.le_of_ble_eq_true rfl, Nat.le_of_ble_eq_true rfl⟩) (fun r37 u37 H locs hp37 hW => ?_)
                              have hW : WB g A s.heap H locs (J, L, I, P, E, N) (sgX g ++ dy) := hW
                              have hWr : WB g A s.heap H locs ((hv J [42] [] J), L, I, P, E, N) (sgX g ++ dy) := by
                                rw [← ag_hvE (J := J) (R := [42]) (F := []) ag_rf]
                                exact hW
                              exact end_i C hr hlocks J hWr trivial dX11_order_156
                            · have c30 : a1.toInt = a2.toInt := teq rfl rfl c30
                              refine lv_aload_n hx hb dX11_order_125 rfl (lv_at hl 3 rfl) ?_
                              refine lv_bipush (v := (-3)) hx hb dX11_order_126 (by decide) ?_
                              refine ci_ C hW (runV (x := (g.2.2.1 12)) (As := [.int (-3)]) (rest := []) (T := ((J, L, I, P, E, N), sgX g ++ dy)) C hW (c_X11_refuse l g J L I P E N dy H.size (-3) hwf) mi_X11_refuse tw_411 (recv_ (T := ((J, L, I, P, E, N), sgX g ++ dy)) C hW (mx_ rfl) rfl rfl) ⟨rfl, rfl, Nat.le_of_ble_eq_true rfl, Nat.le_of_ble_eq_true rfl⟩ rfl hl.1 rfl (Nat.le_of_ble_eq_true rfl) dX11_order_128 ⟨Nat.le_of_ble_eq_true rfl, Nat.le_of_ble_eq_true rfl⟩) (fun r38 u38 H locs hp38 hW => ?_)
                              have hc38 : ((r38 = (-3))) := hp38
                              clear hp38
                              have hr38 : r38.toInt = (-3) := by rw [hc38]; exact kn3
                              have hW : WB g A s.heap H locs ((hv J [42] [] u38), L, I, P, E, N) (sgX g ++ dy) := hW
                              have hWr : WB g A s.heap H locs ((hv J [42] [] (hv J [42] [] u38)), L, I, P, E, N) (sgX g ++ dy) := by
                                rw [← ag_hvE (J := J) (R := [42]) (F := []) (ag_hv rfl rfl ag_rf)]
                                exact hW
                              exact end_i C hr hlocks (hv J [42] [] u38) hWr trivial dX11_order_131
                    · have c21 : 5 < x11.toInt := tnle rfl kp5 c21
                      refine lv_aload_n hx hb dX11_order_91 rfl (lv_at hl 3 rfl) ?_
                      refine lv_bipush (v := (-6)) hx hb dX11_order_92 (by decide) ?_
                      refine ci_ C hW (runV (x := (g.2.2.1 12)) (As := [.int (-6)]) (rest := []) (T := ((J, L, I, P, E, N), sgX g ++ dy)) C hW (c_X11_refuse l g J L I P E N dy H.size (-6) hwf) mi_X11_refuse tw_411 (recv_ (T := ((J, L, I, P, E, N), sgX g ++ dy)) C hW (mx_ rfl) rfl rfl) ⟨rfl, rfl, Nat.le_of_ble_eq_true rfl, Nat.le_of_ble_eq_true rfl⟩ rfl hl.1 rfl (Nat.le_of_ble_eq_true rfl) dX11_order_94 ⟨Nat.le_of_ble_eq_true rfl, Nat.le_of_ble_eq_true rfl⟩) (fun r39 u39 H locs hp39 hW => ?_)
                      have hc39 : ((r39 = (-6))) := hp39
                      clear hp39
                      have hr39 : r39.toInt = (-6) := by rw [hc39]; exact kn6
                      have hW : WB g A s.heap H locs ((hv J [42] [] u39), L, I, P, E, N) (sgX g ++ dy) := hW
                      have hWr : WB g A s.heap H locs ((hv J [42] [] (hv J [42] [] u39)), L, I, P, E, N) (sgX g ++ dy) := by
                        rw [← ag_hvE (J := J) (R := [42]) (F := []) (ag_hv rfl rfl ag_rf)]
                        exact hW
                      exact end_i C hr hlocks (hv J [42] [] u39) hWr trivial dX11_order_97
              · have c16 : 9 < a2.toInt := tnle rfl kp9 c16
                refine lv_aload_n hx hb dX11_order_66 rfl (lv_at hl 3 rfl) ?_
                refine lv_bipush (v := (-6)) hx hb dX11_order_67 (by decide) ?_
                refine ci_ C hW (runV (x := (g.2.2.1 12)) (As := [.int (-6)]) (rest := []) (T := ((J, L, I, P, E, N), sgX g ++ dy)) C hW (c_X11_refuse l g J L I P E N dy H.size (-6) hwf) mi_X11_refuse tw_411 (recv_ (T := ((J, L, I, P, E, N), sgX g ++ dy)) C hW (mx_ rfl) rfl rfl) ⟨rfl, rfl, Nat.le_of_ble_eq_true rfl, Nat.le_of_ble_eq_true rfl⟩ rfl hl.1 rfl (Nat.le_of_ble_eq_true rfl) dX11_order_69 ⟨Nat.le_of_ble_eq_true rfl, Nat.le_of_ble_eq_true rfl⟩) (fun r40 u40 H locs hp40 hW => ?_)
                have hc40 : ((r40 = (-6))) := hp40
                clear hp40
                have hr40 : r40.toInt = (-6) := by rw [hc40]; exact kn6
                have hW : WB g A s.heap H locs ((hv J [42] [] u40), L, I, P, E, N) (sgX g ++ dy) := hW
                have hWr : WB g A s.heap H locs ((hv J [42] [] (hv J [42] [] u40)), L, I, P, E, N) (sgX g ++ dy) := by
                  rw [← ag_hvE (J := J) (R := [42]) (F := []) (ag_hv rfl rfl ag_rf)]
                  exact hW
                exact end_i C hr hlocks (hv J [42] [] u40) hWr trivial dX11_order_72
        · have c7 : a3.toInt < 0 := tnle kp0 rfl c7
          refine lv_aload_n hx hb dX11_order_17 rfl (lv_at hl 0 rfl) ?_
          refine lv_bipush (v := (-4)) hx hb dX11_order_18 (by decide) ?_
          refine ci_ C hW (runV (x := (g.2.2.1 12)) (As := [.int (-4)]) (rest := []) (T := ((J, L, I, P, E, N), sgX g ++ dy)) C hW (c_X11_refuse l g J L I P E N dy H.size (-4) hwf) mi_X11_refuse tw_411 (recv_ (T := ((J, L, I, P, E, N), sgX g ++ dy)) C hW (mx_ rfl) rfl rfl) ⟨rfl, rfl, Nat.le_of_ble_eq_true rfl, Nat.le_of_ble_eq_true rfl⟩ rfl hl.1 rfl (Nat.le_of_ble_eq_true rfl) dX11_order_20 ⟨Nat.le_of_ble_eq_true rfl, Nat.le_of_ble_eq_true rfl⟩) (fun r41 u41 H locs hp41 hW => ?_)
          have hc41 : ((r41 = (-4))) := hp41
          clear hp41
          have hr41 : r41.toInt = (-4) := by rw [hc41]; exact kn4
          have hW : WB g A s.heap H locs ((hv J [42] [] u41), L, I, P, E, N) (sgX g ++ dy) := hW
          have hWr : WB g A s.heap H locs ((hv J [42] [] (hv J [42] [] u41)), L, I, P, E, N) (sgX g ++ dy) := by
            rw [← ag_hvE (J := J) (R := [42]) (F := []) (ag_hv rfl rfl ag_rf)]
            exact hW
          exact end_i C hr hlocks (hv J [42] [] u41) hWr trivial dX11_order_23
