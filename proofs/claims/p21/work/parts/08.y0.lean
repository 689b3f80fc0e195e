theorem dJ7_fill_d0a16_0 : decode cJ7_fill_d0a16 0 = .ok (.iconst 0, 1) := dk_iconst_0 (by decide +kernel)
theorem dJ7_fill_d0a16_1 : decode cJ7_fill_d0a16 1 = .ok (.istore_n 3, 1) := dk_istore_n_3 (by decide +kernel)
theorem dJ7_fill_d0a16_2 : decode cJ7_fill_d0a16 2 = .ok (.aload_n 0, 1) := dk_aload_n_0 (by decide +kernel)
theorem dJ7_fill_d0a16_3 : decode cJ7_fill_d0a16 3 = .ok (.arraylength, 1) := dk_arraylength (by decide +kernel)
theorem dJ7_fill_d0a16_4 : decode cJ7_fill_d0a16 4 = .ok (.istore 4, 2) := dk_istore (by decide +kernel)
theorem dJ7_fill_d0a16_6 : decode cJ7_fill_d0a16 6 = .ok (.iload_n 3, 1) := dk_iload_n_3 (by decide +kernel)
theorem dJ7_fill_d0a16_7 : decode cJ7_fill_d0a16 7 = .ok (.iload 4, 2) := dk_iload (by decide +kernel)
theorem dJ7_fill_d0a16_9 : decode cJ7_fill_d0a16 9 = .ok (.if_icmp .ge 13, 3) := dk_if_icmp_ge (by decide +kernel)
theorem dJ7_fill_d0a16_12 : decode cJ7_fill_d0a16 12 = .ok (.aload_n 0, 1) := dk_aload_n_0 (by decide +kernel)
theorem dJ7_fill_d0a16_13 : decode cJ7_fill_d0a16 13 = .ok (.iload_n 3, 1) := dk_iload_n_3 (by decide +kernel)
theorem dJ7_fill_d0a16_14 : decode cJ7_fill_d0a16 14 = .ok (.lload_n 1, 1) := dk_lload_n_1 (by decide +kernel)
theorem dJ7_fill_d0a16_15 : decode cJ7_fill_d0a16 15 = .ok (.lastore, 1) := dk_lastore (by decide +kernel)
theorem dJ7_fill_d0a16_16 : decode cJ7_fill_d0a16 16 = .ok (.iinc 3 1, 3) := dk_iinc (by decide +kernel)
theorem dJ7_fill_d0a16_19 : decode cJ7_fill_d0a16 19 = .ok (.goto (-13), 3) := dk_goto (by decide +kernel)
theorem dJ7_fill_d0a16_22 : decode cJ7_fill_d0a16 22 = .ok (.return_, 1) := dk_return_ (by decide +kernel)
theorem dX3_findListeners_0 : decode cX3_findListeners 0 = .ok (.aload_n 0, 1) := dk_aload_n_0 (by decide +kernel)
theorem dX3_findListeners_1 : decode cX3_findListeners 1 = .ok (.aload_n 1, 1) := dk_aload_n_1 (by decide +kernel)
theorem dX3_findListeners_2 : decode cX3_findListeners 2 = .ok (.getfield 99, 3) := dk_getfield (by decide +kernel)
theorem dX3_findListeners_5 : decode cX3_findListeners 5 = .ok (.aload_n 1, 1) := dk_aload_n_1 (by decide +kernel)
theorem dX3_findListeners_6 : decode cX3_findListeners 6 = .ok (.getfield 102, 3) := dk_getfield (by decide +kernel)
theorem dX3_findListeners_9 : decode cX3_findListeners 9 = .ok (.iload_n 2, 1) := dk_iload_n_2 (by decide +kernel)
theorem dX3_findListeners_10 : decode cX3_findListeners 10 = .ok (.invokevirtual 105, 3) := dk_invokevirtual (by decide +kernel)
theorem dX3_findListeners_13 : decode cX3_findListeners 13 = .ok (.lconst 0, 1) := dk_lconst_0 (by decide +kernel)
theorem dX3_findListeners_14 : decode cX3_findListeners 14 = .ok (.lstore 4, 2) := dk_lstore (by decide +kernel)
theorem dX3_findListeners_16 : decode cX3_findListeners 16 = .ok (.iconst 0, 1) := dk_iconst_0 (by decide +kernel)
theorem dX3_findListeners_17 : decode cX3_findListeners 17 = .ok (.istore 6, 2) := dk_istore (by decide +kernel)
theorem dX3_findListeners_19 : decode cX3_findListeners 19 = .ok (.iload 6, 2) := dk_iload (by decide +kernel)
theorem dX3_findListeners_21 : decode cX3_findListeners 21 = .ok (.aload_n 0, 1) := dk_aload_n_0 (by decide +kernel)
theorem dX3_findListeners_22 : decode cX3_findListeners 22 = .ok (.getfield 21, 3) := dk_getfield (by decide +kernel)
theorem dX3_findListeners_25 : decode cX3_findListeners 25 = .ok (.invokevirtual 44, 3) := dk_invokevirtual (by decide +kernel)
theorem dX3_findListeners_28 : decode cX3_findListeners 28 = .ok (.if_icmp .ge 43, 3) := dk_if_icmp_ge (by decide +kernel)
theorem dX3_findListeners_31 : decode cX3_findListeners 31 = .ok (.lload 4, 2) := dk_lload (by decide +kernel)
theorem dX3_findListeners_33 : decode cX3_findListeners 33 = .ok (.aload_n 0, 1) := dk_aload_n_0 (by decide +kernel)
theorem dX3_findListeners_34 : decode cX3_findListeners 34 = .ok (.aload_n 0, 1) := dk_aload_n_0 (by decide +kernel)
theorem dX3_findListeners_35 : decode cX3_findListeners 35 = .ok (.getfield 21, 3) := dk_getfield (by decide +kernel)
theorem dX3_findListeners_38 : decode cX3_findListeners 38 = .ok (.iload 6, 2) := dk_iload (by decide +kernel)
theorem dX3_findListeners_40 : decode cX3_findListeners 40 = .ok (.invokevirtual 48, 3) := dk_invokevirtual (by decide +kernel)
theorem dX3_findListeners_43 : decode cX3_findListeners 43 = .ok (.checkcast 52, 3) := dk_checkcast (by decide +kernel)
theorem dX3_findListeners_46 : decode cX3_findListeners 46 = .ok (.aload_n 1, 1) := dk_aload_n_1 (by decide +kernel)
theorem dX3_findListeners_47 : decode cX3_findListeners 47 = .ok (.iload_n 2, 1) := dk_iload_n_2 (by decide +kernel)
theorem dX3_findListeners_48 : decode cX3_findListeners 48 = .ok (.invokevirtual 109, 3) := dk_invokevirtual (by decide +kernel)
theorem dX3_findListeners_51 : decode cX3_findListeners 51 = .ok (.ifCond .le 10, 3) := dk_ifCond_le (by decide +kernel)
theorem dX3_findListeners_54 : decode cX3_findListeners 54 = .ok (.lconst 1, 1) := dk_lconst_1 (by decide +kernel)
theorem dX3_findListeners_55 : decode cX3_findListeners 55 = .ok (.iload 6, 2) := dk_iload (by decide +kernel)
theorem dX3_findListeners_57 : decode cX3_findListeners 57 = .ok (.lshl, 1) := dk_lshl (by decide +kernel)
theorem dX3_findListeners_58 : decode cX3_findListeners 58 = .ok (.goto 4, 3) := dk_goto (by decide +kernel)
theorem dX3_findListeners_61 : decode cX3_findListeners 61 = .ok (.lconst 0, 1) := dk_lconst_0 (by decide +kernel)
theorem dX3_findListeners_62 : decode cX3_findListeners 62 = .ok (.lor, 1) := dk_lor (by decide +kernel)
theorem dX3_findListeners_63 : decode cX3_findListeners 63 = .ok (.lstore 4, 2) := dk_lstore (by decide +kernel)
theorem dX3_findListeners_65 : decode cX3_findListeners 65 = .ok (.iinc 6 1, 3) := dk_iinc (by decide +kernel)
theorem dX3_findListeners_68 : decode cX3_findListeners 68 = .ok (.goto (-49), 3) := dk_goto (by decide +kernel)
theorem dX3_findListeners_71 : decode cX3_findListeners 71 = .ok (.aload_n 0, 1) := dk_aload_n_0 (by decide +kernel)
theorem dX3_findListeners_72 : decode cX3_findListeners 72 = .ok (.iload_n 3, 1) := dk_iload_n_3 (by decide +kernel)
theorem dX3_findListeners_73 : decode cX3_findListeners 73 = .ok (.aload_n 0, 1) := dk_aload_n_0 (by decide +kernel)
theorem dX3_findListeners_74 : decode cX3_findListeners 74 = .ok (.getfield 153, 3) := dk_getfield (by decide +kernel)
theorem dX3_findListeners_77 : decode cX3_findListeners 77 = .ok (.iconst (-1), 1) := dk_iconst_m1 (by decide +kernel)
theorem dX3_findListeners_78 : decode cX3_findListeners 78 = .ok (.invokevirtual 105, 3) := dk_invokevirtual (by decide +kernel)
theorem dX3_findListeners_81 : decode cX3_findListeners 81 = .ok (.aload_n 0, 1) := dk_aload_n_0 (by decide +kernel)
theorem dX3_findListeners_82 : decode cX3_findListeners 82 = .ok (.getfield 31, 3) := dk_getfield (by decide +kernel)
theorem dX3_findListeners_85 : decode cX3_findListeners 85 = .ok (.lconst 0, 1) := dk_lconst_0 (by decide +kernel)
theorem dX3_findListeners_86 : decode cX3_findListeners 86 = .ok (.invokestatic 154, 3) := dk_invokestatic (by decide +kernel)
theorem dX3_findListeners_89 : decode cX3_findListeners 89 = .ok (.iconst 0, 1) := dk_iconst_0 (by decide +kernel)
theorem dX3_findListeners_90 : decode cX3_findListeners 90 = .ok (.istore 6, 2) := dk_istore (by decide +kernel)
theorem dX3_findListeners_92 : decode cX3_findListeners 92 = .ok (.iload 6, 2) := dk_iload (by decide +kernel)
theorem dX3_findListeners_94 : decode cX3_findListeners 94 = .ok (.aload_n 0, 1) := dk_aload_n_0 (by decide +kernel)
theorem dX3_findListeners_95 : decode cX3_findListeners 95 = .ok (.getfield 21, 3) := dk_getfield (by decide +kernel)
theorem dX3_findListeners_98 : decode cX3_findListeners 98 = .ok (.invokevirtual 44, 3) := dk_invokevirtual (by decide +kernel)
theorem dX3_findListeners_101 : decode cX3_findListeners 101 = .ok (.if_icmp .ge 60, 3) := dk_if_icmp_ge (by decide +kernel)
theorem dX3_findListeners_104 : decode cX3_findListeners 104 = .ok (.aload_n 0, 1) := dk_aload_n_0 (by decide +kernel)
theorem dX3_findListeners_105 : decode cX3_findListeners 105 = .ok (.getfield 21, 3) := dk_getfield (by decide +kernel)
theorem dX3_findListeners_108 : decode cX3_findListeners 108 = .ok (.iload 6, 2) := dk_iload (by decide +kernel)
theorem dX3_findListeners_110 : decode cX3_findListeners 110 = .ok (.invokevirtual 48, 3) := dk_invokevirtual (by decide +kernel)
theorem dX3_findListeners_113 : decode cX3_findListeners 113 = .ok (.checkcast 52, 3) := dk_checkcast (by decide +kernel)
theorem dX3_findListeners_116 : decode cX3_findListeners 116 = .ok (.astore 7, 2) := dk_astore (by decide +kernel)
theorem dX3_findListeners_118 : decode cX3_findListeners 118 = .ok (.lload 4, 2) := dk_lload (by decide +kernel)
theorem dX3_findListeners_120 : decode cX3_findListeners 120 = .ok (.iload 6, 2) := dk_iload (by decide +kernel)
theorem dX3_findListeners_122 : decode cX3_findListeners 122 = .ok (.lshr, 1) := dk_lshr (by decide +kernel)
theorem dX3_findListeners_123 : decode cX3_findListeners 123 = .ok (.lconst 1, 1) := dk_lconst_1 (by decide +kernel)
theorem dX3_findListeners_124 : decode cX3_findListeners 124 = .ok (.land, 1) := dk_land (by decide +kernel)
theorem dX3_findListeners_125 : decode cX3_findListeners 125 = .ok (.lconst 0, 1) := dk_lconst_0 (by decide +kernel)
theorem dX3_findListeners_126 : decode cX3_findListeners 126 = .ok (.lcmp, 1) := dk_lcmp (by decide +kernel)
theorem dX3_findListeners_127 : decode cX3_findListeners 127 = .ok (.ifCond .eq 28, 3) := dk_ifCond_eq (by decide +kernel)
theorem dX3_findListeners_130 : decode cX3_findListeners 130 = .ok (.aload 7, 2) := dk_aload (by decide +kernel)
theorem dX3_findListeners_132 : decode cX3_findListeners 132 = .ok (.aload_n 0, 1) := dk_aload_n_0 (by decide +kernel)
theorem dX3_findListeners_133 : decode cX3_findListeners 133 = .ok (.getfield 27, 3) := dk_getfield (by decide +kernel)
theorem dX3_findListeners_136 : decode cX3_findListeners 136 = .ok (.invokevirtual 79, 3) := dk_invokevirtual (by decide +kernel)
theorem dX3_findListeners_139 : decode cX3_findListeners 139 = .ok (.ifCond .eq 16, 3) := dk_ifCond_eq (by decide +kernel)
theorem dX3_findListeners_142 : decode cX3_findListeners 142 = .ok (.aload_n 0, 1) := dk_aload_n_0 (by decide +kernel)
theorem dX3_findListeners_143 : decode cX3_findListeners 143 = .ok (.aload 7, 2) := dk_aload (by decide +kernel)
theorem dX3_findListeners_145 : decode cX3_findListeners 145 = .ok (.getfield 87, 3) := dk_getfield (by decide +kernel)
theorem dX3_findListeners_148 : decode cX3_findListeners 148 = .ok (.lconst 1, 1) := dk_lconst_1 (by decide +kernel)
theorem dX3_findListeners_149 : decode cX3_findListeners 149 = .ok (.iload 6, 2) := dk_iload (by decide +kernel)
theorem dX3_findListeners_151 : decode cX3_findListeners 151 = .ok (.lshl, 1) := dk_lshl (by decide +kernel)
theorem dX3_findListeners_152 : decode cX3_findListeners 152 = .ok (.invokevirtual 160, 3) := dk_invokevirtual (by decide +kernel)
theorem dX3_findListeners_155 : decode cX3_findListeners 155 = .ok (.iinc 6 1, 3) := dk_iinc (by decide +kernel)
theorem dX3_findListeners_158 : decode cX3_findListeners 158 = .ok (.goto (-66), 3) := dk_goto (by decide +kernel)
theorem dX3_findListeners_161 : decode cX3_findListeners 161 = .ok (.return_, 1) := dk_return_ (by decide +kernel)
theorem dX11_covers_0 : decode cX11_covers 0 = .ok (.aload_n 0, 1) := dk_aload_n_0 (by decide +kernel)
theorem dX11_covers_1 : decode cX11_covers 1 = .ok (.getfield 19, 3) := dk_getfield (by decide +kernel)
theorem dX11_covers_4 : decode cX11_covers 4 = .ok (.iload_n 1, 1) := dk_iload_n_1 (by decide +kernel)
theorem dX11_covers_5 : decode cX11_covers 5 = .ok (.invokevirtual 192, 3) := dk_invokevirtual (by decide +kernel)
theorem dX11_covers_8 : decode cX11_covers 8 = .ok (.astore 4, 2) := dk_astore (by decide +kernel)
theorem dX11_covers_10 : decode cX11_covers 10 = .ok (.aload 4, 2) := dk_aload (by decide +kernel)
theorem dX11_covers_12 : decode cX11_covers 12 = .ok (.iload_n 2, 1) := dk_iload_n_2 (by decide +kernel)
theorem dX11_covers_13 : decode cX11_covers 13 = .ok (.iload_n 3, 1) := dk_iload_n_3 (by decide +kernel)
theorem dX11_covers_14 : decode cX11_covers 14 = .ok (.invokestatic 273, 3) := dk_invokestatic (by decide +kernel)
theorem dX11_covers_17 : decode cX11_covers 17 = .ok (.istore 5, 2) := dk_istore (by decide +kernel)
theorem dX11_covers_19 : decode cX11_covers 19 = .ok (.iload 5, 2) := dk_iload (by decide +kernel)
theorem dX11_covers_21 : decode cX11_covers 21 = .ok (.ifCond .ne 8, 3) := dk_ifCond_ne (by decide +kernel)
theorem dX11_covers_24 : decode cX11_covers 24 = .ok (.aload 4, 2) := dk_aload (by decide +kernel)
theorem dX11_covers_26 : decode cX11_covers 26 = .ok (.ifnonnull 10, 3) := dk_ifnonnull (by decide +kernel)
theorem dX11_covers_29 : decode cX11_covers 29 = .ok (.aload_n 0, 1) := dk_aload_n_0 (by decide +kernel)
theorem dX11_covers_30 : decode cX11_covers 30 = .ok (.iload 5, 2) := dk_iload (by decide +kernel)
theorem dX11_covers_32 : decode cX11_covers 32 = .ok (.invokevirtual 67, 3) := dk_invokevirtual (by decide +kernel)
theorem dX11_covers_35 : decode cX11_covers 35 = .ok (.ireturn, 1) := dk_ireturn (by decide +kernel)
theorem dX11_covers_36 : decode cX11_covers 36 = .ok (.aload_n 0, 1) := dk_aload_n_0 (by decide +kernel)
theorem dX11_covers_37 : decode cX11_covers 37 = .ok (.getfield 10, 3) := dk_getfield (by decide +kernel)
theorem dX11_covers_40 : decode cX11_covers 40 = .ok (.aload 4, 2) := dk_aload (by decide +kernel)
theorem dX11_covers_42 : decode cX11_covers 42 = .ok (.iload_n 1, 1) := dk_iload_n_1 (by decide +kernel)
theorem dX11_covers_43 : decode cX11_covers 43 = .ok (.iload_n 3, 1) := dk_iload_n_3 (by decide +kernel)
theorem dX11_covers_44 : decode cX11_covers 44 = .ok (.invokevirtual 277, 3) := dk_invokevirtual (by decide +kernel)
theorem dX11_covers_47 : decode cX11_covers 47 = .ok (.aload_n 0, 1) := dk_aload_n_0 (by decide +kernel)
theorem dX11_covers_48 : decode cX11_covers 48 = .ok (.getfield 10, 3) := dk_getfield (by decide +kernel)
theorem dX11_covers_51 : decode cX11_covers 51 = .ok (.iload_n 2, 1) := dk_iload_n_2 (by decide +kernel)
theorem dX11_covers_52 : decode cX11_covers 52 = .ok (.invokevirtual 281, 3) := dk_invokevirtual (by decide +kernel)
theorem dX11_covers_55 : decode cX11_covers 55 = .ok (.ireturn, 1) := dk_ireturn (by decide +kernel)
set_option maxHeartbeats 4000000 in
set_option maxRecDepth 100000 in
theorem c_J7_fill_d0a16 (l : Launch) (g : gG) (J : Nat → Nat → Int32) (L : Nat → Nat → Int64) (I : Nat → Nat → Nat → Int32) (P : Nat → Nat → Nat → Option Nat) (E : Nat → Option Nat) (N : Nat → Nat) (dy : List (Nat × Nat)) (sz : Nat) (a1 : Int64)  : Met l yJ7_fill_d0a16 (WS yJ7_fill_d0a16 cJ7_fill_d0a16 5 none) (RM (1) 0 0) (PC g [.ref (g.2.2.1 47), .long a1] ((J, L, I, P, E, N), sgX g ++ dy) sz) (va_Qv (fun (u : (Nat → Nat → Int64)) => True) (fun u t => at_ g (FR g ((J, L, I, P, E, N), sgX g ++ dy) sz) ((J, (hv L [47] [] u), I, P, E, N), sgX g ++ dy) t) (FR g ((J, L, I, P, E, N), sgX g ++ dy) sz)) 0 0 (FR g ((J, L, I, P, E, N), sgX g ++ dy) sz) := by
  refine ent (by decide +kernel) (Nat.le_of_ble_eq_true rfl) ?_
  intro p e s m below meth c ls hsz C hW hr hlocks hname hl
  generalize FR g ((J, L, I, P, E, N), sgX g ++ dy) sz = A at C hW ⊢
  have hx := C.1.1
  have hb := C.1.2.1
  have hts := C.1.2.2.2.2
  have hl : lv_has ls 5 [(0, .ref (g.2.2.1 47)), (1, .long a1)] := hl
  obtain ⟨H, hH⟩ : ∃ H : Heap, H = s.heap := ⟨_, rfl⟩
  obtain ⟨locs, hlocs⟩ : ∃ q : List Loc, q = [] := ⟨_, rfl⟩
  have hW : WB g A s.heap H locs (J, L, I, P, E, N) (sgX g ++ dy) := by rw [hH, hlocs]; exact hW
  refine start_ hH hlocs ?_
  refine lv_iconst (v := 0) hx hb dJ7_fill_d0a16_0 (by decide) ?_
  refine lv_istore_n (lv' := [(3, .int 0), (0, .ref (g.2.2.1 47)), (1, .long a1)]) hx hb dJ7_fill_d0a16_1 rfl hl (by decide) rfl (fun ls hl => ?_)
  refine lv_aload_n hx hb dJ7_fill_d0a16_2 rfl (lv_at hl 1 rfl) ?_
  refine rl_47 C hW (mx_ rfl) dJ7_fill_d0a16_3 ?_
  refine lv_istore (lv' := [(4, .int 24), (3, .int 0), (0, .ref (g.2.2.1 47)), (1, .long a1)]) hx hb dJ7_fill_d0a16_4 hl (by decide) rfl (fun ls hl => ?_)
  have loop6 : ∀ (n : Nat) (m3 : Int32) (Ml1 : Nat → Nat → Int64) (H : Heap) (locs : List Loc) (ls : Array Slot), (24 - m3.toInt).toNat < n → 0 ≤ m3.toInt → WB g A s.heap H locs (J, (hv L [47] [] Ml1), I, P, E, N) (sgX g ++ dy) → lv_has ls 5 [(4, .int 24), (3, .int m3), (0, .ref (g.2.2.1 47)), (1, .long a1)] → W p l e (RM (1) 0 0) s m ([.ref (g.2.2.1 47), .long a1] : List Value).toArray below meth c H locs 0 0 (MQ below (va_Qv (fun (u : (Nat → Nat → Int64)) => True) (fun u t => at_ g A ((J, (hv L [47] [] u), I, P, E, N), sgX g ++ dy) t) A) ([.ref (g.2.2.1 47), .long a1] : List Value).toArray s 0 0 A) (F0 m 6 ls []) := by
    intro n
    induction n with
    | zero => intro m3 Ml1 H locs ls hmeas; exact absurd hmeas (Nat.not_lt_zero _)
    | succ n ih =>
      intro m3 Ml1 H locs ls hmeas hi hW hl
      refine lv_iload_n hx hb dJ7_fill_d0a16_6 rfl (lv_at hl 1 rfl) ?_
      refine lv_iload hx hb dJ7_fill_d0a16_7 (lv_at hl 0 rfl) ?_
      refine lv_icmp_ge (tgt := 22) hx hb dJ7_fill_d0a16_9 (by decide) (fun c2 => ?_) (fun c2 => ?_)
      · have c2 : 24 ≤ m3.toInt := tle kp24 rfl c2
        have hWr : WB g A s.heap H locs (J, (hv L [47] [] (hv L [47] [] Ml1)), I, P, E, N) (sgX g ++ dy) := by
          rw [← ag_hvE (J := L) (R := [47]) (F := []) (ag_hv rfl rfl ag_rf)]
          exact hW
        exact end_v C hr hlocks (hv L [47] [] Ml1) hWr trivial dJ7_fill_d0a16_22
      · have c2 : m3.toInt < 24 := tnle kp24 rfl c2
        refine lv_aload_n hx hb dJ7_fill_d0a16_12 rfl (lv_at hl 2 rfl) ?_
        refine lv_iload_n hx hb dJ7_fill_d0a16_13 rfl (lv_at hl 1 rfl) ?_
        refine lv_lload_n hx hb dJ7_fill_d0a16_14 rfl (lv_at hl 3 rfl) ?_
        have hin : vp_in m3 24 := tin rfl (by omega)
        refine rs_47 C hW (mx_ rfl) hin dJ7_fill_d0a16_15 (fun H locs hW => ?_)
        obtain ⟨x3, e3⟩ : ∃ y : Int32, y = m3 + 1 := ⟨_, rfl⟩
        refine lv_iinc (v := x3) (lv' := [(3, .int x3), (4, .int 24), (0, .ref (g.2.2.1 47)), (1, .long a1)]) hx hb dJ7_fill_d0a16_16 hl (k := 1) rfl (by rw [e3]; rfl) (by decide) rfl (fun ls hl => ?_)
        try have t3 : x3.toInt = m3.toInt + 1 := tadd e3 rfl kp1 (by omega)
        refine lv_goto (tgt := 6) hx hb dJ7_fill_d0a16_19 (by decide) ?_
        have hWl : WB g A s.heap H locs (J, (hv L [47] [] (up2 (hv L [47] [] Ml1) 47 m3.toNatClampNeg a1)), I, P, E, N) (sgX g ++ dy) := by
          rw [← ag_hvE (J := L) (R := [47]) (F := []) (ag_up (Or.inl rfl) (ag_hv rfl rfl ag_rf))]
          exact hW
        refine ih x3 (up2 (hv L [47] [] Ml1) 47 m3.toNatClampNeg a1) H locs ls ?_ ?_ hWl (lv_sub hl [1, 0, 2, 3] rfl)
        · show (24 - x3.toInt).toNat < n
          omega
        · show 0 ≤ x3.toInt
          first | omega | exact hi | assumption
  -- into the loop
  have hWl : WB g A s.heap H locs (J, (hv L [47] [] L), I, P, E, N) (sgX g ++ dy) := by
    rw [← ag_hvE (J := L) (R := [47]) (F := []) ag_rf]
    exact hW
  refine loop6 ((24 - (0 : Int32).toInt).toNat + 1) 0 L H locs ls ?_ ?_ hWl (lv_sub hl [0, 1, 2, 3] rfl)
  · exact Nat.lt_succ_self _
  · show 0 ≤ (0 : Int32).toInt
    try rw [kp0]
    first | omega | exact hi | assumption

set_option maxHeartbeats 4000000 in
set_option maxRecDepth 100000 in
theorem c_X3_findListeners (l : Launch) (g : gG) (J : Nat → Nat → Int32) (L : Nat → Nat → Int64) (I : Nat → Nat → Nat → Int32) (P : Nat → Nat → Nat → Option Nat) (E : Nat → Option Nat) (N : Nat → Nat) (dy : List (Nat × Nat)) (sz : Nat) (a0 : Nat) (hm0 : (9, a0) ∈ dy) (a1 : Int32) (a2 : Int32) (hwf : WXF g J P E N dy) : Met l yX3_findListeners (WS yX3_findListeners cX3_findListeners 8 none) (RM (5) 0 0) (PC g [.ref (g.2.2.1 4), .ref a0, .int a1, .int a2] ((J, L, I, P, E, N), sgX g ++ dy) sz) (va_Qv (fun (u : (Nat → Nat → Int64) × (Nat → Nat → Nat → Int32)) => True) (fun u t => at_ g (FR g ((J, L, I, P, E, N), sgX g ++ dy) sz) ((J, (hv L [47] [] u.1), (hv I [] [(6, 6), (6, 7)] u.2), P, E, N), sgX g ++ dy) t) (FR g ((J, L, I, P, E, N), sgX g ++ dy) sz)) 0 0 (FR g ((J, L, I, P, E, N), sgX g ++ dy) sz) := by
  refine ent (by decide +kernel) (Nat.le_of_ble_eq_true rfl) ?_
  intro p e s m below meth c ls hsz C hW hr hlocks hname hl
  generalize FR g ((J, L, I, P, E, N), sgX g ++ dy) sz = A at C hW ⊢
  have hx := C.1.1
  have hb := C.1.2.1
  have hts := C.1.2.2.2.2
  have hl : lv_has ls 8 [(0, .ref (g.2.2.1 4)), (1, .ref a0), (2, .int a1), (3, .int a2)] := hl
  obtain ⟨H, hH⟩ : ∃ H : Heap, H = s.heap := ⟨_, rfl⟩
  obtain ⟨locs, hlocs⟩ : ∃ q : List Loc, q = [] := ⟨_, rfl⟩
  have hW : WB g A s.heap H locs (J, L, I, P, E, N) (sgX g ++ dy) := by rw [hH, hlocs]; exact hW
  obtain ⟨h22a, h22b, -⟩ := hwf.1.2.2.1
  refine start_ hH hlocs ?_
  refine lv_aload_n hx hb dX3_findListeners_0 rfl (lv_at hl 0 rfl) ?_
  refine lv_aload_n hx hb dX3_findListeners_1 rfl (lv_at hl 1 rfl) ?_
  refine rg_9_5 C hW (List.mem_append_right _ hm0) tw_435 dX3_findListeners_2 ?_
  refine lv_topi (fun x1 (e1 : x1 = I 9 5 a0) => ?_)
  have t1 : x1.toInt = (I 9 5 a0).toInt := by rw [e1]
  refine lv_aload_n hx hb dX3_findListeners_5 rfl (lv_at hl 1 rfl) ?_
  refine rg_9_3 C hW (List.mem_append_right _ hm0) tw_431 dX3_findListeners_6 ?_
  refine lv_topi (fun x2 (e2 : x2 = I 9 3 a0) => ?_)
  have t2 : x2.toInt = (I 9 3 a0).toInt := by rw [e2]
  refine lv_iload_n hx hb dX3_findListeners_9 rfl (lv_at hl 2 rfl) ?_
  refine cv_ C hW (runV (x := (g.2.2.1 4)) (As := [.int x1, .int x2, .int a1]) (rest := []) (T := ((J, L, I, P, E, N), sgX g ++ dy)) C hW (c_X3_carry l g J L I P E N dy H.size x1 x2 a1 hwf) mi_X3_carry tw_716 (recv_ (T := ((J, L, I, P, E, N), sgX g ++ dy)) C hW (mx_ rfl) rfl rfl) ⟨rfl, rfl, Nat.le_of_ble_eq_true rfl, Nat.le_of_ble_eq_true rfl⟩ rfl hl.1 rfl (Nat.le_of_ble_eq_true rfl) dX3_findListeners_10 ⟨Nat.le_of_ble_eq_true rfl, Nat.le_of_ble_eq_true rfl⟩) (fun u3 H locs hp3 hW => ?_)
  have hW : WB g A s.heap H locs (J, L, (hv I [] [(6, 6), (6, 7)] u3), P, E, N) (sgX g ++ dy) := hW
  refine lv_lconst (v := 0) hx hb dX3_findListeners_13 (by decide) ?_
  refine lv_lstore (lv' := [(4, .long (0 : Int64)), (0, .ref (g.2.2.1 4)), (1, .ref a0), (2, .int a1), (3, .int a2)]) hx hb dX3_findListeners_14 hl (by decide) rfl (fun ls hl => ?_)
  refine lv_iconst (v := 0) hx hb dX3_findListeners_16 (by decide) ?_
  refine lv_istore (lv' := [(6, .int 0), (4, .long (0 : Int64)), (0, .ref (g.2.2.1 4)), (1, .ref a0), (2, .int a1), (3, .int a2)]) hx hb dX3_findListeners_17 hl (by decide) rfl (fun ls hl => ?_)
  have loop19 : ∀ (n : Nat) (m4 : Int64) (m6 : Int32) (H : Heap) (locs : List Loc) (ls : Array Slot), ((J 22 2).toInt - m6.toInt).toNat < n → 0 ≤ m6.toInt → WB g A s.heap H locs (J, L, (hv I [] [(6, 6), (6, 7)] u3), P, E, N) (sgX g ++ dy) → lv_has ls 8 [(6, .int m6), (4, .long m4), (0, .ref (g.2.2.1 4)), (1, .ref a0), (2, .int a1), (3, .int a2)] → W p l e (RM (5) 0 0) s m ([.ref (g.2.2.1 4), .ref a0, .int a1, .int a2] : List Value).toArray below meth c H locs 0 0 (MQ below (va_Qv (fun (u : (Nat → Nat → Int64) × (Nat → Nat → Nat → Int32)) => True) (fun u t => at_ g A ((J, (hv L [47] [] u.1), (hv I [] [(6, 6), (6, 7)] u.2), P, E, N), sgX g ++ dy) t) A) ([.ref (g.2.2.1 4), .ref a0, .int a1, .int a2] : List Value).toArray s 0 0 A) (F0 m 19 ls []) := by
    intro n
    induction n with
    | zero => intro m4 m6 H locs ls hmeas; exact absurd hmeas (Nat.not_lt_zero _)
    | succ n ih =>
      intro m4 m6 H locs ls hmeas hi hW hl
      refine lv_iload hx hb dX3_findListeners_19 (lv_at hl 0 rfl) ?_
      refine lv_aload_n hx hb dX3_findListeners_21 rfl (lv_at hl 2 rfl) ?_
      refine rg_4_2 C hW (mx_ rfl) tw_236 dX3_findListeners_22 ?_
      refine ci_ C hW (runV (x := (g.2.2.1 22)) (As := []) (rest := [.int m6]) (T := ((J, L, (hv I [] [(6, 6), (6, 7)] u3), P, E, N), sgX g ++ dy)) C hW (c_Jx4a65c_size_8abf5 l g J L (hv I [] [(6, 6), (6, 7)] u3) P E N dy H.size 22 rfl ) mi_Jx4a65c_size_8abf5 tw_467 (recv_ (T := ((J, L, (hv I [] [(6, 6), (6, 7)] u3), P, E, N), sgX g ++ dy)) C hW (mx_ rfl) (cel_list rfl) rfl) ⟨rfl, rfl, Nat.le_of_ble_eq_true rfl, Nat.le_of_ble_eq_true rfl⟩ rfl hl.1 rfl (Nat.le_of_ble_eq_true rfl) dX3_findListeners_25 ⟨Nat.le_of_ble_eq_true rfl, Nat.le_of_ble_eq_true rfl⟩) (fun r4 u4 H locs hp4 hW => ?_)
      have hc4 : ((r4 = J 22 2)) := hp4
      clear hp4
      have hr4 : r4 = J 22 2 := hc4
      refine lv_as (J 22 2) hr4 ?_
      have hW : WB g A s.heap H locs (J, L, (hv I [] [(6, 6), (6, 7)] u3), P, E, N) (sgX g ++ dy) := hW
      refine lv_icmp_ge (tgt := 71) hx hb dX3_findListeners_28 (by decide) (fun c5 => ?_) (fun c5 => ?_)
      · have c5 : (J 22 2).toInt ≤ m6.toInt := tle rfl rfl c5
        refine lv_aload_n hx hb dX3_findListeners_71 rfl (lv_at hl 2 rfl) ?_
        refine lv_iload_n hx hb dX3_findListeners_72 rfl (lv_at hl 5 rfl) ?_
        refine lv_aload_n hx hb dX3_findListeners_73 rfl (lv_at hl 2 rfl) ?_
        refine rg_4_4 C hW (mx_ rfl) tw_241 dX3_findListeners_74 ?_
        refine lv_iconst (v := (-1)) hx hb dX3_findListeners_77 (by decide) ?_
        refine cv_ C hW (runV (x := (g.2.2.1 4)) (As := [.int a2, .int (J 4 4), .int (-1)]) (rest := []) (T := ((J, L, (hv I [] [(6, 6), (6, 7)] u3), P, E, N), sgX g ++ dy)) C hW (c_X3_carry l g J L (hv I [] [(6, 6), (6, 7)] u3) P E N dy H.size a2 (J 4 4) (-1) hwf) mi_X3_carry tw_716 (recv_ (T := ((J, L, (hv I [] [(6, 6), (6, 7)] u3), P, E, N), sgX g ++ dy)) C hW (mx_ rfl) rfl rfl) ⟨rfl, rfl, Nat.le_of_ble_eq_true rfl, Nat.le_of_ble_eq_true rfl⟩ rfl hl.1 rfl (Nat.le_of_ble_eq_true rfl) dX3_findListeners_78 ⟨Nat.le_of_ble_eq_true rfl, Nat.le_of_ble_eq_true rfl⟩) (fun u6 H locs hp6 hW => ?_)
        have hW : WB g A s.heap H locs (J, L, (hv (hv I [] [(6, 6), (6, 7)] u3) [] [(6, 6), (6, 7)] u6), P, E, N) (sgX g ++ dy) := hW
        refine lv_aload_n hx hb dX3_findListeners_81 rfl (lv_at hl 2 rfl) ?_
        refine rg_4_8 C hW (mx_ rfl) tw_248 dX3_findListeners_82 ?_
        refine lv_lconst (v := 0) hx hb dX3_findListeners_85 (by decide) ?_
        refine cv_ C hW (runS (As := [.ref (g.2.2.1 47), .long (0 : Int64)]) (rest := []) (T := ((J, L, (hv (hv I [] [(6, 6), (6, 7)] u3) [] [(6, 6), (6, 7)] u6), P, E, N), sgX g ++ dy)) C hW (c_J7_fill_d0a16 l g J L (hv (hv I [] [(6, 6), (6, 7)] u3) [] [(6, 6), (6, 7)] u6) P E N dy H.size (0 : Int64) ) mi_J7_fill_d0a16 tw_906 ⟨rfl, rfl, Nat.le_of_ble_eq_true rfl, Nat.le_of_ble_eq_true rfl⟩ rfl hl.1 rfl (Nat.le_of_ble_eq_true rfl) dX3_findListeners_86 ⟨Nat.le_of_ble_eq_true rfl, Nat.le_of_ble_eq_true rfl⟩) (fun u7 H locs hp7 hW => ?_)
        have hW : WB g A s.heap H locs (J, (hv L [47] [] u7), (hv (hv I [] [(6, 6), (6, 7)] u3) [] [(6, 6), (6, 7)] u6), P, E, N) (sgX g ++ dy) := hW
        refine lv_iconst (v := 0) hx hb dX3_findListeners_89 (by decide) ?_
        refine lv_istore (lv' := [(6, .int 0), (4, .long m4), (0, .ref (g.2.2.1 4)), (1, .ref a0), (2, .int a1), (3, .int a2)]) hx hb dX3_findListeners_90 hl (by decide) rfl (fun ls hl => ?_)
        have loop92 : ∀ (n92 : Nat) (m6 : Int32) (Kl8 : Nat → Nat → Nat → Int32) (Ml9 : Nat → Nat → Int64) (H : Heap) (locs : List Loc) (ls : Array Slot), ((J 22 2).toInt - m6.toInt).toNat < n92 → 0 ≤ m6.toInt → WB g A s.heap H locs (J, (hv (hv L [47] [] u7) [47] [] Ml9), (hv (hv (hv I [] [(6, 6), (6, 7)] u3) [] [(6, 6), (6, 7)] u6) [] [(6, 6), (6, 7)] Kl8), P, E, N) (sgX g ++ dy) → lv_has ls 8 [(6, .int m6), (4, .long m4), (0, .ref (g.2.2.1 4)), (1, .ref a0), (2, .int a1), (3, .int a2)] → W p l e (RM (5) 0 0) s m ([.ref (g.2.2.1 4), .ref a0, .int a1, .int a2] : List Value).toArray below meth c H locs 0 0 (MQ below (va_Qv (fun (u : (Nat → Nat → Int64) × (Nat → Nat → Nat → Int32)) => True) (fun u t => at_ g A ((J, (hv L [47] [] u.1), (hv I [] [(6, 6), (6, 7)] u.2), P, E, N), sgX g ++ dy) t) A) ([.ref (g.2.2.1 4), .ref a0, .int a1, .int a2] : List Value).toArray s 0 0 A) (F0 m 92 ls []) := by
          intro n92
          induction n92 with
          | zero => intro m6 Kl8 Ml9 H locs ls hmeas; exact absurd hmeas (Nat.not_lt_zero _)
          | succ n92 ih92 =>
            intro m6 Kl8 Ml9 H locs ls hmeas hi hW hl
            refine lv_iload hx hb dX3_findListeners_92 (lv_at hl 0 rfl) ?_
            refine lv_aload_n hx hb dX3_findListeners_94 rfl (lv_at hl 2 rfl) ?_
            refine rg_4_2 C hW (mx_ rfl) tw_236 dX3_findListeners_95 ?_
            refine ci_ C hW (runV (x := (g.2.2.1 22)) (As := []) (rest := [.int m6]) (T := ((J, (hv (hv L [47] [] u7) [47] [] Ml9), (hv (hv (hv I [] [(6, 6), (6, 7)] u3) [] [(6, 6), (6, 7)] u6) [] [(6, 6), (6, 7)] Kl8), P, E, N), sgX g ++ dy)) C hW (c_Jx4a65c_size_8abf5 l g J (hv (hv L [47] [] u7) [47] [] Ml9) (hv (hv (hv I [] [(6, 6), (6, 7)] u3) [] [(6, 6), (6, 7)] u6) [] [(6, 6), (6, 7)] Kl8) P E N dy H.size 22 rfl ) mi_Jx4a65c_size_8abf5 tw_467 (recv_ (T := ((J, (hv (hv L [47] [] u7) [47] [] Ml9), (hv (hv (hv I [] [(6, 6), (6, 7)] u3) [] [(6, 6), (6, 7)] u6) [] [(6, 6), (6, 7)] Kl8), P, E, N), sgX g ++ dy)) C hW (mx_ rfl) (cel_list rfl) rfl) ⟨rfl, rfl, Nat.le_of_ble_eq_true rfl, Nat.le_of_ble_eq_true rfl⟩ rfl hl.1 rfl (Nat.le_of_ble_eq_true rfl) dX3_findListeners_98 ⟨Nat.le_of_ble_eq_true rfl, Nat.le_of_ble_eq_true rfl⟩) (fun r10 u10 H locs hp10 hW => ?_)
            have hc10 : ((r10 = J 22 2)) := hp10
            clear hp10
            have hr10 : r10 = J 22 2 := hc10
            refine lv_as (J 22 2) hr10 ?_
            have hW : WB g A s.heap H locs (J, (hv (hv L [47] [] u7) [47] [] Ml9), (hv (hv (hv I [] [(6, 6), (6, 7)] u3) [] [(6, 6), (6, 7)] u6) [] [(6, 6), (6, 7)] Kl8), P, E, N) (sgX g ++ dy) := hW
            refine lv_icmp_ge (tgt := 161) hx hb dX3_findListeners_101 (by decide) (fun c11 => ?_) (fun c11 => ?_)
            · have c11 : (J 22 2).toInt ≤ m6.toInt := tle rfl rfl c11
              have hWr : WB g A s.heap H locs (J, (hv L [47] [] (hv (hv L [47] [] u7) [47] [] Ml9)), (hv I [] [(6, 6), (6, 7)] (hv (hv (hv I [] [(6, 6), (6, 7)] u3) [] [(6, 6), (6, 7)] u6) [] [(6, 6), (6, 7)] Kl8)), P, E, N) (sgX g ++ dy) := by
                rw [← ag_hvE (J := L) (R := [47]) (F := []) (ag_hv rfl rfl (ag_hv rfl rfl ag_rf))]
                rw [← ag_hvE (J := I) (R := []) (F := [(6, 6), (6, 7)]) (ag_hv rfl rfl (ag_hv rfl rfl (ag_hv rfl rfl ag_rf)))]
                exact hW
              exact end_v C hr hlocks ((hv (hv L [47] [] u7) [47] [] Ml9), (hv (hv (hv I [] [(6, 6), (6, 7)] u3) [] [(6, 6), (6, 7)] u6) [] [(6, 6), (6, 7)] Kl8)) hWr trivial dX3_findListeners_161
            · have c11 : m6.toInt < (J 22 2).toInt := tnle rfl rfl c11
              refine lv_aload_n hx hb dX3_findListeners_104 rfl (lv_at hl 2 rfl) ?_
              refine rg_4_2 C hW (mx_ rfl) tw_236 dX3_findListeners_105 ?_
              refine lv_iload hx hb dX3_findListeners_108 (lv_at hl 0 rfl) ?_
              refine cq_ C hW (runV (x := (g.2.2.1 22)) (As := [.int m6]) (rest := []) (T := ((J, (hv (hv L [47] [] u7) [47] [] Ml9), (hv (hv (hv I [] [(6, 6), (6, 7)] u3) [] [(6, 6), (6, 7)] u6) [] [(6, 6), (6, 7)] Kl8), P, E, N), sgX g ++ dy)) C hW ((c_Jx4a65c_get_915e3 2) l g J (hv (hv L [47] [] u7) [47] [] Ml9) (hv (hv (hv I [] [(6, 6), (6, 7)] u3) [] [(6, 6), (6, 7)] u6) [] [(6, 6), (6, 7)] Kl8) P E N dy H.size 22 rfl m6 (show LWF g J P E N dy 22 2 from hwf.1.2.2.1) (show 0 ≤ m6.toInt ∧ m6.toInt < (J 22 2).toInt from by omega)) mi_Jx4a65c_get_915e3 tw_471 (recv_ (T := ((J, (hv (hv L [47] [] u7) [47] [] Ml9), (hv (hv (hv I [] [(6, 6), (6, 7)] u3) [] [(6, 6), (6, 7)] u6) [] [(6, 6), (6, 7)] Kl8), P, E, N), sgX g ++ dy)) C hW (mx_ rfl) (cel_list rfl) rfl) ⟨rfl, rfl, Nat.le_of_ble_eq_true rfl, Nat.le_of_ble_eq_true rfl⟩ rfl hl.1 rfl (Nat.le_of_ble_eq_true rfl) dX3_findListeners_110 ⟨Nat.le_of_ble_eq_true rfl, Nat.le_of_ble_eq_true rfl⟩) (fun q12 u12 H locs hp12 hW => ?_)
              have hq12 : (q12 = some (elt E P 22 m6.toNatClampNeg)) := hp12
              clear hp12
              have hW : WB g A s.heap H locs (J, (hv (hv L [47] [] u7) [47] [] Ml9), (hv (hv (hv I [] [(6, 6), (6, 7)] u3) [] [(6, 6), (6, 7)] u6) [] [(6, 6), (6, 7)] Kl8), P, E, N) (sgX g ++ dy) := hW
              subst hq12
              obtain ⟨o12, ho12⟩ : ∃ z : Nat, z = elt E P 22 m6.toNatClampNeg := ⟨_, rfl⟩
              have hm12 : (2, o12) ∈ dy := by rw [ho12]; exact (lw_mem (er := 2) hwf.1.2.2.1 (show (m6.toNatClampNeg : Int) < (J 22 2).toInt from by have := tcl m6; omega))
              refine lv_asv (v' := .ref o12) (by rw [ho12]; rfl) ?_
              refine g_cast C hW (List.mem_append_right _ hm12) rfl rfl tw_580 dX3_findListeners_113 ?_
              refine lv_astore (lv' := [(7, .ref o12), (6, .int m6), (4, .long m4), (0, .ref (g.2.2.1 4)), (1, .ref a0), (2, .int a1), (3, .int a2)]) hx hb dX3_findListeners_116 hl (by decide) rfl (fun ls hl => ?_)
              refine lv_lload hx hb dX3_findListeners_118 (lv_at hl 2 rfl) ?_
              refine lv_iload hx hb dX3_findListeners_120 (lv_at hl 1 rfl) ?_
              refine lv_lshr hx hb dX3_findListeners_122 rfl ?_
              refine lv_topl (fun z13 ez13 => ?_)
              refine lv_lconst (v := 1) hx hb dX3_findListeners_123 (by decide) ?_
              refine lv_land hx hb dX3_findListeners_124 ?_
              refine lv_topl (fun z14 ez14 => ?_)
              refine lv_lconst (v := 0) hx hb dX3_findListeners_125 (by decide) ?_
              refine W.lcmp hx hb dX3_findListeners_126 ?_
              refine lv_topi (fun x15 (e15 : x15 = lg_cmp z14 (0 : Int64)) => ?_)
              refine lv_if_eq (tgt := 155) hx hb dX3_findListeners_127 (by decide) (fun c16 => ?_) (fun c16 => ?_)
              · have c16 : x15.toInt = 0 := teq rfl kp0 c16
                obtain ⟨x17, e17⟩ : ∃ y : Int32, y = m6 + 1 := ⟨_, rfl⟩
                refine lv_iinc (v := x17) (lv' := [(6, .int x17), (7, .ref o12), (4, .long m4), (0, .ref (g.2.2.1 4)), (1, .ref a0), (2, .int a1), (3, .int a2)]) hx hb dX3_findListeners_155 hl (k := 1) rfl (by rw [e17]; rfl) (by decide) rfl (fun ls hl => ?_)
                try have t17 : x17.toInt = m6.toInt + 1 := tadd e17 rfl kp1 (by omega)
                refine lv_goto (tgt := 92) hx hb dX3_findListeners_158 (by decide) ?_
                have hWl : WB g A s.heap H locs (J, (hv (hv L [47] [] u7) [47] [] (hv (hv L [47] [] u7) [47] [] Ml9)), (hv (hv (hv I [] [(6, 6), (6, 7)] u3) [] [(6, 6), (6, 7)] u6) [] [(6, 6), (6, 7)] (hv (hv (hv I [] [(6, 6), (6, 7)] u3) [] [(6, 6), (6, 7)] u6) [] [(6, 6), (6, 7)] Kl8)), P, E, N) (sgX g ++ dy) := by
                  rw [← ag_hvE (J := (hv (hv I [] [(6, 6), (6, 7)] u3) [] [(6, 6), (6, 7)] u6)) (R := []) (F := [(6, 6), (6, 7)]) (ag_hv rfl rfl ag_rf)]
                  rw [← ag_hvE (J := (hv L [47] [] u7)) (R := [47]) (F := []) (ag_hv rfl rfl ag_rf)]
                  exact hW
                refine ih92 x17 (hv (hv (hv I [] [(6, 6), (6, 7)] u3) [] [(6, 6), (6, 7)] u6) [] [(6, 6), (6, 7)] Kl8) (hv (hv L [47] [] u7) [47] [] Ml9) H locs ls ?_ ?_ hWl (lv_sub hl [0, 2, 3, 4, 5, 6] rfl)
                · show ((J 22 2).toInt - x17.toInt).toNat < n92
                  omega
                · show 0 ≤ x17.toInt
                  first | omega | exact hi | assumption
              · have c16 : ¬ x15.toInt = 0 := tne rfl kp0 c16
                refine lv_aload hx hb dX3_findListeners_130 (lv_at hl 0 rfl) ?_
                refine lv_aload_n hx hb dX3_findListeners_132 rfl (lv_at hl 3 rfl) ?_
                refine rg_4_5 C hW (mx_ rfl) tw_242 dX3_findListeners_133 ?_
                refine ci_ C hW (runV (x := o12) (As := [.int (J 4 5)]) (rest := []) (T := ((J, (hv (hv L [47] [] u7) [47] [] Ml9), (hv (hv (hv I [] [(6, 6), (6, 7)] u3) [] [(6, 6), (6, 7)] u6) [] [(6, 6), (6, 7)] Kl8), P, E, N), sgX g ++ dy)) C hW (c_X1_isReached l g J (hv (hv L [47] [] u7) [47] [] Ml9) (hv (hv (hv I [] [(6, 6), (6, 7)] u3) [] [(6, 6), (6, 7)] u6) [] [(6, 6), (6, 7)] Kl8) P E N dy H.size o12 hm12 (J 4 5) hwf) mi_X1_isReached tw_721 (recv_ (T := ((J, (hv (hv L [47] [] u7) [47] [] Ml9), (hv (hv (hv I [] [(6, 6), (6, 7)] u3) [] [(6, 6), (6, 7)] u6) [] [(6, 6), (6, 7)] Kl8), P, E, N), sgX g ++ dy)) C hW (List.mem_append_right _ hm12) rfl rfl) ⟨rfl, rfl, Nat.le_of_ble_eq_true rfl, Nat.le_of_ble_eq_true rfl⟩ rfl hl.1 rfl (Nat.le_of_ble_eq_true rfl) dX3_findListeners_136 ⟨Nat.le_of_ble_eq_true rfl, Nat.le_of_ble_eq_true rfl⟩) (fun r18 u18 H locs hp18 hW => ?_)
                have hc18 : ((r18.toInt = 1) ∨ (r18.toInt = 0)) := hp18
                clear hp18
                have hW : WB g A s.heap H locs (J, (hv (hv L [47] [] u7) [47] [] Ml9), (hv (hv (hv I [] [(6, 6), (6, 7)] u3) [] [(6, 6), (6, 7)] u6) [] [(6, 6), (6, 7)] Kl8), P, E, N) (sgX g ++ dy) := hW
                refine lv_if_eq (tgt := 155) hx hb dX3_findListeners_139 (by decide) (fun c19 => ?_) (fun c19 => ?_)
                · have c19 : r18.toInt = 0 := teq rfl kp0 c19
                  obtain ⟨x20, e20⟩ : ∃ y : Int32, y = m6 + 1 := ⟨_, rfl⟩
                  refine lv_iinc (v := x20) (lv' := [(6, .int x20), (7, .ref o12), (4, .long m4), (0, .ref (g.2.2.1 4)), (1, .ref a0), (2, .int a1), (3, .int a2)]) hx hb dX3_findListeners_155 hl (k := 1) rfl (by rw [e20]; rfl) (by decide) rfl (fun ls hl => ?_)
                  try have t20 : x20.toInt = m6.toInt + 1 := tadd e20 rfl kp1 (by omega)
                  refine lv_goto (tgt := 92) hx hb dX3_findListeners_158 (by decide) ?_
                  have hWl : WB g A s.heap H locs (J, (hv (hv L [47] [] u7) [47] [] (hv (hv L [47] [] u7) [47] [] Ml9)), (hv (hv (hv I [] [(6, 6), (6, 7)] u3) [] [(6, 6), (6, 7)] u6) [] [(6, 6), (6, 7)] (hv (hv (hv I [] [(6, 6), (6, 7)] u3) [] [(6, 6), (6, 7)] u6) [] [(6, 6), (6, 7)] Kl8)), P, E, N) (sgX g ++ dy) := by
                    rw [← ag_hvE (J := (hv (hv I [] [(6, 6), (6, 7)] u3) [] [(6, 6), (6, 7)] u6)) (R := []) (F := [(6, 6), (6, 7)]) (ag_hv rfl rfl ag_rf)]
                    rw [← ag_hvE (J := (hv L [47] [] u7)) (R := [47]) (F := []) (ag_hv rfl rfl ag_rf)]
                    exact hW
                  refine ih92 x20 (hv (hv (hv I [] [(6, 6), (6, 7)] u3) [] [(6, 6), (6, 7)] u6) [] [(6, 6), (6, 7)] Kl8) (hv (hv L [47] [] u7) [47] [] Ml9) H locs ls ?_ ?_ hWl (lv_sub hl [0, 2, 3, 4, 5, 6] rfl)
                  · show ((J 22 2).toInt - x20.toInt).toNat < n92
                    omega
                  · show 0 ≤ x20.toInt
                    first | omega | exact hi | assumption
                · have c19 : ¬ r18.toInt = 0 := tne rfl kp0 c19
                  refine lv_aload_n hx hb dX3_findListeners_142 rfl (lv_at hl 3 rfl) ?_
                  refine lv_aload hx hb dX3_findListeners_143 (lv_at hl 0 rfl) ?_
                  refine rg_2_2 C hW (List.mem_append_right _ hm12) tw_552 dX3_findListeners_145 ?_
                  refine lv_topi (fun x21 (e21 : x21 = I 2 2 o12) => ?_)
                  have t21 : x21.toInt = (I 2 2 o12).toInt := by rw [e21]
                  refine lv_lconst (v := 1) hx hb dX3_findListeners_148 (by decide) ?_
                  refine lv_iload hx hb dX3_findListeners_149 (lv_at hl 1 rfl) ?_
                  refine lv_lshl hx hb dX3_findListeners_151 rfl ?_
                  refine lv_topl (fun z22 ez22 => ?_)
                  refine cv_ C hW (runV (x := (g.2.2.1 4)) (As := [.int x21, .long z22]) (rest := []) (T := ((J, (hv (hv L [47] [] u7) [47] [] Ml9), (hv (hv (hv I [] [(6, 6), (6, 7)] u3) [] [(6, 6), (6, 7)] u6) [] [(6, 6), (6, 7)] Kl8), P, E, N), sgX g ++ dy)) C hW (c_X3_addListener l g J (hv (hv L [47] [] u7) [47] [] Ml9) (hv (hv (hv I [] [(6, 6), (6, 7)] u3) [] [(6, 6), (6, 7)] u6) [] [(6, 6), (6, 7)] Kl8) P E N dy H.size x21 z22 ) mi_X3_addListener tw_909 (recv_ (T := ((J, (hv (hv L [47] [] u7) [47] [] Ml9), (hv (hv (hv I [] [(6, 6), (6, 7)] u3) [] [(6, 6), (6, 7)] u6) [] [(6, 6), (6, 7)] Kl8), P, E, N), sgX g ++ dy)) C hW (mx_ rfl) rfl rfl) ⟨rfl, rfl, Nat.le_of_ble_eq_true rfl, Nat.le_of_ble_eq_true rfl⟩ rfl hl.1 rfl (Nat.le_of_ble_eq_true rfl) dX3_findListeners_152 ⟨Nat.le_of_ble_eq_true rfl, Nat.le_of_ble_eq_true rfl⟩) (fun u23 H locs hp23 hW => ?_)
                  have hW : WB g A s.heap H locs (J, (hv (hv (hv L [47] [] u7) [47] [] Ml9) [47] [] u23), (hv (hv (hv I [] [(6, 6), (6, 7)] u3) [] [(6, 6), (6, 7)] u6) [] [(6, 6), (6, 7)] Kl8), P, E, N) (sgX g ++ dy) := hW
                  obtain ⟨x24, e24⟩ : ∃ y : Int32, y = m6 + 1 := ⟨_, rfl⟩
                  refine lv_iinc (v := x24) (lv' := [(6, .int x24), (7, .ref o12), (4, .long m4), (0, .ref (g.2.2.1 4)), (1, .ref a0), (2, .int a1), (3, .int a2)]) hx hb dX3_findListeners_155 hl (k := 1) rfl (by rw [e24]; rfl) (by decide) rfl (fun ls hl => ?_)
                  try have t24 : x24.toInt = m6.toInt + 1 := tadd e24 rfl kp1 (by omega)
                  refine lv_goto (tgt := 92) hx hb dX3_findListeners_158 (by decide) ?_
                  have hWl : WB g A s.heap H locs (J, (hv (hv L [47] [] u7) [47] [] (hv (hv (hv L [47] [] u7) [47] [] Ml9) [47] [] u23)), (hv (hv (hv I [] [(6, 6), (6, 7)] u3) [] [(6, 6), (6, 7)] u6) [] [(6, 6), (6, 7)] (hv (hv (hv I [] [(6, 6), (6, 7)] u3) [] [(6, 6), (6, 7)] u6) [] [(6, 6), (6, 7)] Kl8)), P, E, N) (sgX g ++ dy) := by
                    rw [← ag_hvE (J := (hv (hv I [] [(6, 6), (6, 7)] u3) [] [(6, 6), (6, 7)] u6)) (R := []) (F := [(6, 6), (6, 7)]) (ag_hv rfl rfl ag_rf)]
                    rw [← ag_hvE (J := (hv L [47] [] u7)) (R := [47]) (F := []) (ag_hv rfl rfl (ag_hv rfl rfl ag_rf))]
                    exact hW
                  refine ih92 x24 (hv (hv (hv I [] [(6, 6), (6, 7)] u3) [] [(6, 6), (6, 7)] u6) [] [(6, 6), (6, 7)] Kl8) (hv (hv (hv L [47] [] u7) [47] [] Ml9) [47] [] u23) H locs ls ?_ ?_ hWl (lv_sub hl [0, 2, 3, 4, 5, 6] rfl)
                  · show ((J 22 2).toInt - x24.toInt).toNat < n92
                    omega
                  · show 0 ≤ x24.toInt
                    first | omega | exact hi | assumption
        -- into the loop
        have hWl : WB g A s.heap H locs (J, (hv (hv L [47] [] u7) [47] [] (hv L [47] [] u7)), (hv (hv (hv I [] [(6, 6), (6, 7)] u3) [] [(6, 6), (6, 7)] u6) [] [(6, 6), (6, 7)] (hv (hv I [] [(6, 6), (6, 7)] u3) [] [(6, 6), (6, 7)] u6)), P, E, N) (sgX g ++ dy) := by
          rw [← ag_hvE (J := (hv (hv I [] [(6, 6), (6, 7)] u3) [] [(6, 6), (6, 7)] u6)) (R := []) (F := [(6, 6), (6, 7)]) ag_rf]
          rw [← ag_hvE (J := (hv L [47] [] u7)) (R := [47]) (F := []) ag_rf]
          exact hW
        refine loop92 (((J 22 2).toInt - (0 : Int32).toInt).toNat + 1) 0 (hv (hv I [] [(6, 6), (6, 7)] u3) [] [(6, 6), (6, 7)] u6) (hv L [47] [] u7) H locs ls ?_ ?_ hWl (lv_sub hl [0, 1, 2, 3, 4, 5] rfl)
        · exact Nat.lt_succ_self _
        · show 0 ≤ (0 : Int32).toInt
          try rw [kp0]
          first | omega | exact hi | assumption
      · have c5 : m6.toInt < (J 22 2).toInt := tnle rfl rfl c5
        refine lv_lload hx hb dX3_findListeners_31 (lv_at hl 1 rfl) ?_
        refine lv_aload_n hx hb dX3_findListeners_33 rfl (lv_at hl 2 rfl) ?_
        refine lv_aload_n hx hb dX3_findListeners_34 rfl (lv_at hl 2 rfl) ?_
        refine rg_4_2 C hW (mx_ rfl) tw_236 dX3_findListeners_35 ?_
        refine lv_iload hx hb dX3_findListeners_38 (lv_at hl 0 rfl) ?_
        refine cq_ C hW (runV (x := (g.2.2.1 22)) (As := [.int m6]) (rest := [.ref (g.2.2.1 4), .long m4]) (T := ((J, L, (hv I [] [(6, 6), (6, 7)] u3), P, E, N), sgX g ++ dy)) C hW ((c_Jx4a65c_get_915e3 2) l g J L (hv I [] [(6, 6), (6, 7)] u3) P E N dy H.size 22 rfl m6 (show LWF g J P E N dy 22 2 from hwf.1.2.2.1) (show 0 ≤ m6.toInt ∧ m6.toInt < (J 22 2).toInt from by omega)) mi_Jx4a65c_get_915e3 tw_471 (recv_ (T := ((J, L, (hv I [] [(6, 6), (6, 7)] u3), P, E, N), sgX g ++ dy)) C hW (mx_ rfl) (cel_list rfl) rfl) ⟨rfl, rfl, Nat.le_of_ble_eq_true rfl, Nat.le_of_ble_eq_true rfl⟩ rfl hl.1 rfl (Nat.le_of_ble_eq_true rfl) dX3_findListeners_40 ⟨Nat.le_of_ble_eq_true rfl, Nat.le_of_ble_eq_true rfl⟩) (fun q25 u25 H locs hp25 hW => ?_)
        have hq25 : (q25 = some (elt E P 22 m6.toNatClampNeg)) := hp25
        clear hp25
        have hW : WB g A s.heap H locs (J, L, (hv I [] [(6, 6), (6, 7)] u3), P, E, N) (sgX g ++ dy) := hW
        subst hq25
        obtain ⟨o25, ho25⟩ : ∃ z : Nat, z = elt E P 22 m6.toNatClampNeg := ⟨_, rfl⟩
        have hm25 : (2, o25) ∈ dy := by rw [ho25]; exact (lw_mem (er := 2) hwf.1.2.2.1 (show (m6.toNatClampNeg : Int) < (J 22 2).toInt from by have := tcl m6; omega))
        refine lv_asv (v' := .ref o25) (by rw [ho25]; rfl) ?_
        refine g_cast C hW (List.mem_append_right _ hm25) rfl rfl tw_580 dX3_findListeners_43 ?_
        refine lv_aload_n hx hb dX3_findListeners_46 rfl (lv_at hl 3 rfl) ?_
        refine lv_iload_n hx hb dX3_findListeners_47 rfl (lv_at hl 4 rfl) ?_
        refine ci_ C hW (runV (x := (g.2.2.1 4)) (As := [.ref o25, .ref a0, .int a1]) (rest := [.long m4]) (T := ((J, L, (hv I [] [(6, 6), (6, 7)] u3), P, E, N), sgX g ++ dy)) C hW (c_X3_howHeard l g J L (hv I [] [(6, 6), (6, 7)] u3) P E N dy H.size o25 hm25 a0 hm0 a1 hwf) mi_X3_howHeard tw_717 (recv_ (T := ((J, L, (hv I [] [(6, 6), (6, 7)] u3), P, E, N), sgX g ++ dy)) C hW (mx_ rfl) rfl rfl) ⟨rfl, rfl, Nat.le_of_ble_eq_true rfl, Nat.le_of_ble_eq_true rfl⟩ rfl hl.1 rfl (Nat.le_of_ble_eq_true rfl) dX3_findListeners_48 ⟨Nat.le_of_ble_eq_true rfl, Nat.le_of_ble_eq_true rfl⟩) (fun r26 u26 H locs hp26 hW => ?_)
        have hW : WB g A s.heap H locs (J, L, (hv I [] [(6, 6), (6, 7)] u3), P, E, N) (sgX g ++ dy) := hW
        refine lv_if_le (tgt := 61) hx hb dX3_findListeners_51 (by decide) (fun c27 => ?_) (fun c27 => ?_)
        · have c27 : r26.toInt ≤ 0 := tle rfl kp0 c27
          refine lv_lconst (v := 0) hx hb dX3_findListeners_61 (by decide) ?_
          refine lv_lor hx hb dX3_findListeners_62 ?_
          refine lv_topl (fun z28 ez28 => ?_)
          refine lv_lstore (lv' := [(4, .long z28), (6, .int m6), (0, .ref (g.2.2.1 4)), (1, .ref a0), (2, .int a1), (3, .int a2)]) hx hb dX3_findListeners_63 hl (by decide) rfl (fun ls hl => ?_)
          obtain ⟨x29, e29⟩ : ∃ y : Int32, y = m6 + 1 := ⟨_, rfl⟩
          refine lv_iinc (v := x29) (lv' := [(6, .int x29), (4, .long z28), (0, .ref (g.2.2.1 4)), (1, .ref a0), (2, .int a1), (3, .int a2)]) hx hb dX3_findListeners_65 hl (k := 1) rfl (by rw [e29]; rfl) (by decide) rfl (fun ls hl => ?_)
          try have t29 : x29.toInt = m6.toInt + 1 := tadd e29 rfl kp1 (by omega)
          refine lv_goto (tgt := 19) hx hb dX3_findListeners_68 (by decide) ?_
          refine ih z28 x29 H locs ls ?_ ?_ hW (lv_sub hl [0, 1, 2, 3, 4, 5] rfl)
          · show ((J 22 2).toInt - x29.toInt).toNat < n
            omega
          · show 0 ≤ x29.toInt
            first | omega | exact hi | assumption
        · have c27 : 0 < r26.toInt := tnle rfl kp0 c27
          refine lv_lconst (v := 1) hx hb dX3_findListeners_54 (by decide) ?_
          refine lv_iload hx hb dX3_findListeners_55 (lv_at hl 0 rfl) ?_
          refine lv_lshl hx hb dX3_findListeners_57 rfl ?_
          refine lv_topl (fun z30 ez30 => ?_)
          refine lv_goto (tgt := 62) hx hb dX3_findListeners_58 (by decide) ?_
          refine lv_lor hx hb dX3_findListeners_62 ?_
          refine lv_topl (fun z31 ez31 => ?_)
          refine lv_lstore (lv' := [(4, .long z31), (6, .int m6), (0, .ref (g.2.2.1 4)), (1, .ref a0), (2, .int a1), (3, .int a2)]) hx hb dX3_findListeners_63 hl (by decide) rfl (fun ls hl => ?_)
          obtain ⟨x32, e32⟩ : ∃ y : Int32, y = m6 + 1 := ⟨_, rfl⟩
          refine lv_iinc (v := x32) (lv' := [(6, .int x32), (4, .long z31), (0, .ref (g.2.2.1 4)), (1, .ref a0), (2, .int a1), (3, .int a2)]) hx hb dX3_findListeners_65 hl (k := 1) rfl (by rw [e32]; rfl) (by decide) rfl (fun ls hl => ?_)
          try have t32 : x32.toInt = m6.toInt + 1 := tadd e32 rfl kp1 (by omega)
          refine lv_goto (tgt := 19) hx hb dX3_findListeners_68 (by decide) ?_
          refine ih z31 x32 H locs ls ?_ ?_ hW (lv_sub hl [0, 1, 2, 3, 4, 5] rfl)
          · show ((J 22 2).toInt - x32.toInt).toNat < n
            omega
          · show 0 ≤ x32.toInt
            first | omega | exact hi | assumption
  -- into the loop
  refine loop19 (((J 22 2).toInt - (0 : Int32).toInt).toNat + 1) (0 : Int64) 0 H locs ls ?_ ?_ hW (lv_sub hl [0, 1, 2, 3, 4, 5] rfl)
  · exact Nat.lt_succ_self _
  · show 0 ≤ (0 : Int32).toInt
    try rw [kp0]
    first | omega | exact hi | assumption

set_option maxHeartbeats 4000000 in
set_option maxRecDepth 100000 in
theorem c_X11_covers (l : Launch) (g : gG) (J : Nat → Nat → Int32) (L : Nat → Nat → Int64) (I : Nat → Nat → Nat → Int32) (P : Nat → Nat → Nat → Option Nat) (E : Nat → Option Nat) (N : Nat → Nat) (dy : List (Nat × Nat)) (sz : Nat) (a0 : Int32) (a1 : Int32) (a2 : Int32) (hwf : WXF g J P E N dy) : Met l yX11_covers (WS yX11_covers cX11_covers 6 (some .int)) (RM (6) 0 0) (PC g [.ref (g.2.2.1 12), .int a0, .int a1, .int a2] ((J, L, I, P, E, N), sgX g ++ dy) sz) (va_Qi (fun (r : Int32) (u : (Nat → Nat → Int32) × (Nat → Nat → Int64) × (Nat → Nat → Nat → Int32)) => True) (fun u t => at_ g (FR g ((J, L, I, P, E, N), sgX g ++ dy) sz) (((hv J [42] [] u.1), (hv L [47] [] u.2.1), (hv I [] [(6, 6), (6, 7)] u.2.2), P, E, N), sgX g ++ dy) t) (FR g ((J, L, I, P, E, N), sgX g ++ dy) sz)) 0 0 (FR g ((J, L, I, P, E, N), sgX g ++ dy) sz) := by
  refine ent (by decide +kernel) (Nat.le_of_ble_eq_true rfl) ?_
  intro p e s m below meth c ls hsz C hW hr hlocks hname hl
  generalize FR g ((J, L, I, P, E, N), sgX g ++ dy) sz = A at C hW ⊢
  have hx := C.1.1
  have hb := C.1.2.1
  have hts := C.1.2.2.2.2
  have hl : lv_has ls 6 [(0, .ref (g.2.2.1 12)), (1, .int a0), (2, .int a1), (3, .int a2)] := hl
  obtain ⟨H, hH⟩ : ∃ H : Heap, H = s.heap := ⟨_, rfl⟩
  obtain ⟨locs, hlocs⟩ : ∃ q : List Loc, q = [] := ⟨_, rfl⟩
  have hW : WB g A s.heap H locs (J, L, I, P, E, N) (sgX g ++ dy) := by rw [hH, hlocs]; exact hW
  refine start_ hH hlocs ?_
  refine lv_aload_n hx hb dX11_covers_0 rfl (lv_at hl 0 rfl) ?_
  refine rg_12_1 C hW (mx_ rfl) tw_365 dX11_covers_1 ?_
  refine lv_iload_n hx hb dX11_covers_4 rfl (lv_at hl 1 rfl) ?_
  refine cq_ C hW (runV (x := (g.2.2.1 3)) (As := [.int a0]) (rest := []) (T := ((J, L, I, P, E, N), sgX g ++ dy)) C hW (c_X2_spanOf l g J L I P E N dy H.size a0 hwf) mi_X2_spanOf tw_639 (recv_ (T := ((J, L, I, P, E, N), sgX g ++ dy)) C hW (mx_ rfl) rfl rfl) ⟨rfl, rfl, Nat.le_of_ble_eq_true rfl, Nat.le_of_ble_eq_true rfl⟩ rfl hl.1 rfl (Nat.le_of_ble_eq_true rfl) dX11_covers_5 ⟨Nat.le_of_ble_eq_true rfl, Nat.le_of_ble_eq_true rfl⟩) (fun q1 u1 H locs hp1 hW => ?_)
  have hq1 : (q1 = none ∨ (∃ o9 : Nat, q1 = some o9 ∧ (9, o9) ∈ dy)) := hp1
  clear hp1
  have hW : WB g A s.heap H locs (J, L, I, P, E, N) (sgX g ++ dy) := hW
  rcases hq1 with ho1 | ⟨o1, ho1, hm1⟩ <;> subst ho1
  · refine lv_asv (v' := .null) rfl ?_
    refine lv_astoreN (lv' := [(4, .null), (0, .ref (g.2.2.1 12)), (1, .int a0), (2, .int a1), (3, .int a2)]) hx hb dX11_covers_8 hl (by decide) rfl (fun ls hl => ?_)
    refine lv_aloadN hx hb dX11_covers_10 (lv_at hl 0 rfl) ?_
    refine lv_iload_n hx hb dX11_covers_12 rfl (lv_at hl 3 rfl) ?_
    refine lv_iload_n hx hb dX11_covers_13 rfl (lv_at hl 4 rfl) ?_
    refine ci_ C hW (runS (As := [.null, .int a1, .int a2]) (rest := []) (T := ((J, L, I, P, E, N), sgX g ++ dy)) C hW (c_X11_correctionRefusal_n l g J L I P E N dy H.size a1 a2 ) mi_X11_correctionRefusal tw_899 ⟨rfl, rfl, Nat.le_of_ble_eq_true rfl, Nat.le_of_ble_eq_true rfl⟩ rfl hl.1 rfl (Nat.le_of_ble_eq_true rfl) dX11_covers_14 ⟨Nat.le_of_ble_eq_true rfl, Nat.le_of_ble_eq_true rfl⟩) (fun r2 u2 H locs hp2 hW => ?_)
    have hW : WB g A s.heap H locs (J, L, I, P, E, N) (sgX g ++ dy) := hW
    refine lv_istore (lv' := [(5, .int r2), (4, .null), (0, .ref (g.2.2.1 12)), (1, .int a0), (2, .int a1), (3, .int a2)]) hx hb dX11_covers_17 hl (by decide) rfl (fun ls hl => ?_)
    refine lv_iload hx hb dX11_covers_19 (lv_at hl 0 rfl) ?_
    refine lv_if_ne (tgt := 29) hx hb dX11_covers_21 (by decide) (fun c3 => ?_) (fun c3 => ?_)
    · have c3 : ¬ r2.toInt = 0 := tne rfl kp0 c3
      refine lv_aload_n hx hb dX11_covers_29 rfl (lv_at hl 2 rfl) ?_
      refine lv_iload hx hb dX11_covers_30 (lv_at hl 0 rfl) ?_
      refine ci_ C hW (runV (x := (g.2.2.1 12)) (As := [.int r2]) (rest := []) (T := ((J, L, I, P, E, N), sgX g ++ dy)) C hW (c_X11_refuse l g J L I P E N dy H.size r2 hwf) mi_X11_refuse tw_411 (recv_ (T := ((J, L, I, P, E, N), sgX g ++ dy)) C hW (mx_ rfl) rfl rfl) ⟨rfl, rfl, Nat.le_of_ble_eq_true rfl, Nat.le_of_ble_eq_true rfl⟩ rfl hl.1 rfl (Nat.le_of_ble_eq_true rfl) dX11_covers_32 ⟨Nat.le_of_ble_eq_true rfl, Nat.le_of_ble_eq_true rfl⟩) (fun r4 u4 H locs hp4 hW => ?_)
      have hc4 : ((r4 = r2)) := hp4
      clear hp4
      have hr4 : r4.toInt = (r2).toInt := by rw [hc4]
      have hW : WB g A s.heap H locs ((hv J [42] [] u4), L, I, P, E, N) (sgX g ++ dy) := hW
      have hWr : WB g A s.heap H locs ((hv J [42] [] (hv J [42] [] u4)), (hv L [47] [] L), (hv I [] [(6, 6), (6, 7)] I), P, E, N) (sgX g ++ dy) := by
        rw [← ag_hvE (J := J) (R := [42]) (F := []) (ag_hv rfl rfl ag_rf)]
        rw [← ag_hvE (J := L) (R := [47]) (F := []) ag_rf]
        rw [← ag_hvE (J := I) (R := []) (F := [(6, 6), (6, 7)]) ag_rf]
        exact hW
      exact end_i C hr hlocks ((hv J [42] [] u4), L, I) hWr trivial dX11_covers_35
    · have c3 : r2.toInt = 0 := teq rfl kp0 c3
      refine lv_aloadN hx hb dX11_covers_24 (lv_at hl 1 rfl) ?_
      refine lv_ifnonnullN hx hb dX11_covers_26 ?_
      refine lv_aload_n hx hb dX11_covers_29 rfl (lv_at hl 2 rfl) ?_
      refine lv_iload hx hb dX11_covers_30 (lv_at hl 0 rfl) ?_
      refine ci_ C hW (runV (x := (g.2.2.1 12)) (As := [.int r2]) (rest := []) (T := ((J, L, I, P, E, N), sgX g ++ dy)) C hW (c_X11_refuse l g J L I P E N dy H.size r2 hwf) mi_X11_refuse tw_411 (recv_ (T := ((J, L, I, P, E, N), sgX g ++ dy)) C hW (mx_ rfl) rfl rfl) ⟨rfl, rfl, Nat.le_of_ble_eq_true rfl, Nat.le_of_ble_eq_true rfl⟩ rfl hl.1 rfl (Nat.le_of_ble_eq_true rfl) dX11_covers_32 ⟨Nat.le_of_ble_eq_true rfl, Nat.le_of_ble_eq_true rfl⟩) (fun r5 u5 H locs hp5 hW => ?_)
      have hc5 : ((r5 = r2)) := hp5
      clear hp5
      have hr5 : r5.toInt = (r2).toInt := by rw [hc5]
      have hW : WB g A s.heap H locs ((hv J [42] [] u5), L, I, P, E, N) (sgX g ++ dy) := hW
      have hWr : WB g A s.heap H locs ((hv J [42] [] (hv J [42] [] u5)), (hv L [47] [] L), (hv I [] [(6, 6), (6, 7)] I), P, E, N) (sgX g ++ dy) := by
        rw [← ag_hvE (J := J) (R := [42]) (F := []) (ag_hv rfl rfl ag_rf)]
        rw [← ag_hvE (J := L) (R := [47]) (F := []) ag_rf]
        rw [← ag_hvE (J := I) (R := []) (F := [(6, 6), (6, 7)]) ag_rf]
        exact hW
      exact end_i C hr hlocks ((hv J [42] [] u5), L, I) hWr trivial dX11_covers_35
  · refine lv_asv (v' := .ref o1) rfl ?_
    refine lv_astore (lv' := [(4, .ref o1), (0, .ref (g.2.2.1 12)), (1, .int a0), (2, .int a1), (3, .int a2)]) hx hb dX11_covers_8 hl (by decide) rfl (fun ls hl => ?_)
    refine lv_aload hx hb dX11_covers_10 (lv_at hl 0 rfl) ?_
    refine lv_iload_n hx hb dX11_covers_12 rfl (lv_at hl 3 rfl) ?_
    refine lv_iload_n hx hb dX11_covers_13 rfl (lv_at hl 4 rfl) ?_
    refine ci_ C hW (runS (As := [.ref o1, .int a1, .int a2]) (rest := []) (T := ((J, L, I, P, E, N), sgX g ++ dy)) C hW (c_X11_correctionRefusal l g J L I P E N dy H.size o1 hm1 a1 a2 ) mi_X11_correctionRefusal tw_899 ⟨rfl, rfl, Nat.le_of_ble_eq_true rfl, Nat.le_of_ble_eq_true rfl⟩ rfl hl.1 rfl (Nat.le_of_ble_eq_true rfl) dX11_covers_14 ⟨Nat.le_of_ble_eq_true rfl, Nat.le_of_ble_eq_true rfl⟩) (fun r6 u6 H locs hp6 hW => ?_)
    have hW : WB g A s.heap H locs (J, L, I, P, E, N) (sgX g ++ dy) := hW
    refine lv_istore (lv' := [(5, .int r6), (4, .ref o1), (0, .ref (g.2.2.1 12)), (1, .int a0), (2, .int a1), (3, .int a2)]) hx hb dX11_covers_17 hl (by decide) rfl (fun ls hl => ?_)
    refine lv_iload hx hb dX11_covers_19 (lv_at hl 0 rfl) ?_
    refine lv_if_ne (tgt := 29) hx hb dX11_covers_21 (by decide) (fun c7 => ?_) (fun c7 => ?_)
    · have c7 : ¬ r6.toInt = 0 := tne rfl kp0 c7
      refine lv_aload_n hx hb dX11_covers_29 rfl (lv_at hl 2 rfl) ?_
      refine lv_iload hx hb dX11_covers_30 (lv_at hl 0 rfl) ?_
      refine ci_ C hW (runV (x := (g.2.2.1 12)) (As := [.int r6]) (rest := []) (T := ((J, L, I, P, E, N), sgX g ++ dy)) C hW (c_X11_refuse l g J L I P E N dy H.size r6 hwf) mi_X11_refuse tw_411 (recv_ (T := ((J, L, I, P, E, N), sgX g ++ dy)) C hW (mx_ rfl) rfl rfl) ⟨rfl, rfl, Nat.le_of_ble_eq_true rfl, Nat.le_of_ble_eq_true rfl⟩ rfl hl.1 rfl (Nat.le_of_ble_eq_true rfl) dX11_covers_32 ⟨Nat.le_of_ble_eq_true rfl, Nat.le_of_ble_eq_true rfl⟩) (fun r8 u8 H locs hp8 hW => ?_)
      have hc8 : ((r8 = r6)) := hp8
      clear hp8
      have hr8 : r8.toInt = (r6).toInt := by rw [hc8]
      have hW : WB g A s.heap H locs ((hv J [42] [] u8), L, I, P, E, N) (sgX g ++ dy) := hW
      have hWr : WB g A s.heap H locs ((hv J [42] [] (hv J [42] [] u8)), (hv L [47] [] L), (hv I [] [(6, 6), (6, 7)] I), P, E, N) (sgX g ++ dy) := by
        rw [← ag_hvE (J := J) (R := [42]) (F := []) (ag_hv rfl rfl ag_rf)]
        rw [← ag_hvE (J := L) (R := [47]) (F := []) ag_rf]
        rw [← ag_hvE (J := I) (R := []) (F := [(6, 6), (6, 7)]) ag_rf]
        exact hW
      exact end_i C hr hlocks ((hv J [42] [] u8), L, I) hWr trivial dX11_covers_35
    · have c7 : r6.toInt = 0 := teq rfl kp0 c7
      refine lv_aload hx hb dX11_covers_24 (lv_at hl 1 rfl) ?_
      refine lv_ifnonnull (tgt := 36) hx hb dX11_covers_26 (by decide) ?_
      refine lv_aload_n hx hb dX11_covers_36 rfl (lv_at hl 2 rfl) ?_
      refine rg_12_0 C hW (mx_ rfl) tw_364 dX11_covers_37 ?_
      refine lv_aload hx hb dX11_covers_40 (lv_at hl 1 rfl) ?_
      refine lv_iload_n hx hb dX11_covers_42 rfl (lv_at hl 3 rfl) ?_
      refine lv_iload_n hx hb dX11_covers_43 rfl (lv_at hl 5 rfl) ?_
      refine cv_ C hW (runV (x := (g.2.2.1 4)) (As := [.ref o1, .int a0, .int a2]) (rest := []) (T := ((J, L, I, P, E, N), sgX g ++ dy)) C hW (c_X3_findListeners l g J L I P E N dy H.size o1 hm1 a0 a2 hwf) mi_X3_findListeners tw_902 (recv_ (T := ((J, L, I, P, E, N), sgX g ++ dy)) C hW (mx_ rfl) rfl rfl) ⟨rfl, rfl, Nat.le_of_ble_eq_true rfl, Nat.le_of_ble_eq_true rfl⟩ rfl hl.1 rfl (Nat.le_of_ble_eq_true rfl) dX11_covers_44 ⟨Nat.le_of_ble_eq_true rfl, Nat.le_of_ble_eq_true rfl⟩) (fun u9 H locs hp9 hW => ?_)
      have hW : WB g A s.heap H locs (J, (hv L [47] [] u9.1), (hv I [] [(6, 6), (6, 7)] u9.2), P, E, N) (sgX g ++ dy) := hW
      refine lv_aload_n hx hb dX11_covers_47 rfl (lv_at hl 2 rfl) ?_
      refine rg_12_0 C hW (mx_ rfl) tw_364 dX11_covers_48 ?_
      refine lv_iload_n hx hb dX11_covers_51 rfl (lv_at hl 4 rfl) ?_
      refine ci_ C hW (runV (x := (g.2.2.1 4)) (As := [.int a1]) (rest := []) (T := ((J, (hv L [47] [] u9.1), (hv I [] [(6, 6), (6, 7)] u9.2), P, E, N), sgX g ++ dy)) C hW (c_X3_covered l g J (hv L [47] [] u9.1) (hv I [] [(6, 6), (6, 7)] u9.2) P E N dy H.size a1 hwf) mi_X3_covered tw_913 (recv_ (T := ((J, (hv L [47] [] u9.1), (hv I [] [(6, 6), (6, 7)] u9.2), P, E, N), sgX g ++ dy)) C hW (mx_ rfl) rfl rfl) ⟨rfl, rfl, Nat.le_of_ble_eq_true rfl, Nat.le_of_ble_eq_true rfl⟩ rfl hl.1 rfl (Nat.le_of_ble_eq_true rfl) dX11_covers_52 ⟨Nat.le_of_ble_eq_true rfl, Nat.le_of_ble_eq_true rfl⟩) (fun r10 u10 H locs hp10 hW => ?_)
      have hW : WB g A s.heap H locs (J, (hv L [47] [] u9.1), (hv I [] [(6, 6), (6, 7)] u9.2), P, E, N) (sgX g ++ dy) := hW
      have hWr : WB g A s.heap H locs ((hv J [42] [] J), (hv L [47] [] (hv L [47] [] u9.1)), (hv I [] [(6, 6), (6, 7)] (hv I [] [(6, 6), (6, 7)] u9.2)), P, E, N) (sgX g ++ dy) := by
        rw [← ag_hvE (J := J) (R := [42]) (F := []) ag_rf]
        rw [← ag_hvE (J := L) (R := [47]) (F := []) (ag_hv rfl rfl ag_rf)]
        rw [← ag_hvE (J := I) (R := []) (F := [(6, 6), (6, 7)]) (ag_hv rfl rfl ag_rf)]
        exact hW
      exact end_i C hr hlocks (J, (hv L [47] [] u9.1), (hv I [] [(6, 6), (6, 7)] u9.2)) hWr trivial dX11_covers_55
