theorem tmin {x y z : Int32} {a b : Int} (e : z = if y < x then y else x) (hx : x.toInt = a) (hy : y.toInt = b) : z.toInt = min a b := by
  by_cases h : y < x
  · have := tlt hy hx h; rw [e, if_pos h, hy]; omega
  · have := tnlt hy hx h; rw [e, if_neg h, hx]; omega
theorem tmax {x y z : Int32} {a b : Int} (e : z = if x < y then y else x) (hx : x.toInt = a) (hy : y.toInt = b) : z.toInt = max a b := by
  by_cases h : x < y
  · have := tlt hx hy h; rw [e, if_pos h, hy]; omega
  · have := tnlt hx hy h; rw [e, if_neg h, hx]; omega
theorem dX5_receive_0 : decode cX5_receive 0 = .ok (.aload_n 0, 1) := by decide +kernel
theorem dX5_receive_1 : decode cX5_receive 1 = .ok (.getfield 9, 3) := by decide +kernel
theorem dX5_receive_4 : decode cX5_receive 4 = .ok (.ifnonnull 9, 3) := by decide +kernel
theorem dX5_receive_7 : decode cX5_receive 7 = .ok (.aload_n 0, 1) := by decide +kernel
theorem dX5_receive_8 : decode cX5_receive 8 = .ok (.iload_n 1, 1) := by decide +kernel
theorem dX5_receive_9 : decode cX5_receive 9 = .ok (.putfield 22, 3) := by decide +kernel
theorem dX5_receive_12 : decode cX5_receive 12 = .ok (.return_, 1) := by decide +kernel
theorem dX5_receive_13 : decode cX5_receive 13 = .ok (.aload_n 0, 1) := by decide +kernel
theorem dX5_receive_14 : decode cX5_receive 14 = .ok (.getfield 25, 3) := by decide +kernel
theorem dX5_receive_17 : decode cX5_receive 17 = .ok (.ifCond .eq 7, 3) := by decide +kernel
theorem dX5_receive_20 : decode cX5_receive 20 = .ok (.iconst 0, 1) := by decide +kernel
theorem dX5_receive_21 : decode cX5_receive 21 = .ok (.goto 23, 3) := by decide +kernel
theorem dX5_receive_24 : decode cX5_receive 24 = .ok (.aload_n 0, 1) := by decide +kernel
theorem dX5_receive_25 : decode cX5_receive 25 = .ok (.getfield 9, 3) := by decide +kernel
theorem dX5_receive_28 : decode cX5_receive 28 = .ok (.getfield 22, 3) := by decide +kernel
theorem dX5_receive_31 : decode cX5_receive 31 = .ok (.aload_n 0, 1) := by decide +kernel
theorem dX5_receive_32 : decode cX5_receive 32 = .ok (.getfield 15, 3) := by decide +kernel
theorem dX5_receive_35 : decode cX5_receive 35 = .ok (.bipush 10, 2) := by decide +kernel
theorem dX5_receive_37 : decode cX5_receive 37 = .ok (.iload_n 2, 1) := by decide +kernel
theorem dX5_receive_38 : decode cX5_receive 38 = .ok (.iadd, 1) := by decide +kernel
theorem dX5_receive_39 : decode cX5_receive 39 = .ok (.imul, 1) := by decide +kernel
theorem dX5_receive_40 : decode cX5_receive 40 = .ok (.bipush 10, 2) := by decide +kernel
theorem dX5_receive_42 : decode cX5_receive 42 = .ok (.idiv, 1) := by decide +kernel
theorem dX5_receive_43 : decode cX5_receive 43 = .ok (.isub, 1) := by decide +kernel
theorem dX5_receive_44 : decode cX5_receive 44 = .ok (.istore_n 3, 1) := by decide +kernel
theorem dX5_receive_45 : decode cX5_receive 45 = .ok (.aload_n 0, 1) := by decide +kernel
theorem dX5_receive_46 : decode cX5_receive 46 = .ok (.iload_n 3, 1) := by decide +kernel
theorem dX5_receive_47 : decode cX5_receive 47 = .ok (.ifCond .le 23, 3) := by decide +kernel
theorem dX5_receive_50 : decode cX5_receive 50 = .ok (.iload_n 3, 1) := by decide +kernel
theorem dX5_receive_51 : decode cX5_receive 51 = .ok (.aload_n 0, 1) := by decide +kernel
theorem dX5_receive_52 : decode cX5_receive 52 = .ok (.getfield 29, 3) := by decide +kernel
theorem dX5_receive_55 : decode cX5_receive 55 = .ok (.iadd, 1) := by decide +kernel
theorem dX5_receive_56 : decode cX5_receive 56 = .ok (.aload_n 0, 1) := by decide +kernel
theorem dX5_receive_57 : decode cX5_receive 57 = .ok (.getfield 32, 3) := by decide +kernel
theorem dX5_receive_60 : decode cX5_receive 60 = .ok (.iadd, 1) := by decide +kernel
theorem dX5_receive_61 : decode cX5_receive 61 = .ok (.sipush 999, 3) := by decide +kernel
theorem dX5_receive_64 : decode cX5_receive 64 = .ok (.invokestatic 35, 3) := by decide +kernel
theorem dX5_receive_67 : decode cX5_receive 67 = .ok (.goto 4, 3) := by decide +kernel
theorem dX5_receive_70 : decode cX5_receive 70 = .ok (.iconst 0, 1) := by decide +kernel
theorem dX5_receive_71 : decode cX5_receive 71 = .ok (.putfield 22, 3) := by decide +kernel
theorem dX5_receive_74 : decode cX5_receive 74 = .ok (.return_, 1) := by decide +kernel
set_option maxHeartbeats 4000000 in
set_option maxRecDepth 100000 in
theorem c_X5_receive (l : Launch) (g : gG) (J : Nat → Nat → Int32) (L : Nat → Nat → Int64) (I : Nat → Nat → Nat → Int32) (P : Nat → Nat → Nat → Option Nat) (E : Nat → Option Nat) (N : Nat → Nat) (dy : List (Nat × Nat)) (sz : Nat) (o : Nat) (hmo : (6, o) ∈ dy) (a0 : Int32) (a1 : Int32) (hwf : WXF g J P E N dy) : Met l yX5_receive (WS yX5_receive cX5_receive 4 none) (RM (2) 0 0) (PC g [.ref o, .int a0, .int a1] ((J, L, I, P, E, N), sgX g ++ dy) sz) (va_Qv (fun (u : (Nat → Nat → Nat → Int32)) => True) (fun u t => at_ g (FR g ((J, L, I, P, E, N), sgX g ++ dy) sz) ((J, L, (hv I [] [(6, 7)] u), P, E, N), sgX g ++ dy) t) (FR g ((J, L, I, P, E, N), sgX g ++ dy) sz)) 0 0 (FR g ((J, L, I, P, E, N), sgX g ++ dy) sz) := by
  refine ent (by decide +kernel) (Nat.le_of_ble_eq_true rfl) ?_
  intro p e s m below meth c ls hsz C hW hr hlocks hname hl
  generalize FR g ((J, L, I, P, E, N), sgX g ++ dy) sz = A at C hW ⊢
  have hx := C.1.1
  have hb := C.1.2.1
  have hts := C.1.2.2.2.2
  have hl : lv_has ls 4 [(0, .ref o), (1, .int a0), (2, .int a1)] := hl
  obtain ⟨H, hH⟩ : ∃ H : Heap, H = s.heap := ⟨_, rfl⟩
  obtain ⟨locs, hlocs⟩ : ∃ q : List Loc, q = [] := ⟨_, rfl⟩
  have hW : WB g A s.heap H locs (J, L, I, P, E, N) (sgX g ++ dy) := by rw [hH, hlocs]; exact hW
  refine start_ hH hlocs ?_
  refine lv_aload_n hx hb dX5_receive_0 rfl (lv_at hl 0 rfl) ?_
  refine rg_6_0 C hW (List.mem_append_right _ hmo) tw_137 dX5_receive_1 ?_
  rcases hwf.2.2.1 o hmo with hb1 | ⟨b1, hb1, hbm1⟩
  · refine lv_asv (v' := .null) (by show va_rf (P 6 0 o) = _; rw [hb1]; rfl) ?_
    refine lv_ifnonnullN hx hb dX5_receive_4 ?_
    refine lv_aload_n hx hb dX5_receive_7 rfl (lv_at hl 0 rfl) ?_
    refine lv_iload_n hx hb dX5_receive_8 rfl (lv_at hl 1 rfl) ?_
    refine rp_6_7 C hW (List.mem_append_right _ hmo) tw_151 dX5_receive_9 (fun H locs hW => ?_)
    have hWr : WB g A s.heap H locs (J, L, (hv I [] [(6, 7)] (up3 I 6 7 o a0)), P, E, N) (sgX g ++ dy) := by
      rw [← ag_hvE (J := I) (R := []) (F := [(6, 7)]) (ag_up3 (Or.inr rfl) ag_rf)]
      exact hW
    exact end_v C hr hlocks (up3 I 6 7 o a0) hWr trivial dX5_receive_12
  · refine lv_asv (v' := .ref b1) (by show va_rf (P 6 0 o) = _; rw [hb1]; rfl) ?_
    refine lv_ifnonnull (tgt := 13) hx hb dX5_receive_4 (by decide) ?_
    refine lv_aload_n hx hb dX5_receive_13 rfl (lv_at hl 0 rfl) ?_
    refine rg_6_6 C hW (List.mem_append_right _ hmo) tw_148 dX5_receive_14 ?_
    refine lv_topi (fun x2 (e2 : x2 = I 6 6 o) => ?_)
    have t2 : x2.toInt = (I 6 6 o).toInt := by rw [e2]
    refine lv_if_eq (tgt := 24) hx hb dX5_receive_17 (by decide) (fun c3 => ?_) (fun c3 => ?_)
    · have c3 : x2.toInt = 0 := teq rfl kp0 c3
      refine lv_aload_n hx hb dX5_receive_24 rfl (lv_at hl 0 rfl) ?_
      refine rg_6_0 C hW (List.mem_append_right _ hmo) tw_137 dX5_receive_25 ?_
      refine lv_asv (v' := .ref b1) (by show va_rf (P 6 0 o) = _; rw [hb1]; rfl) ?_
      refine rg_6_7 C hW (List.mem_append_right _ hbm1) tw_151 dX5_receive_28 ?_
      refine lv_topi (fun x5 (e5 : x5 = I 6 7 b1) => ?_)
      have t5 : x5.toInt = (I 6 7 b1).toInt := by rw [e5]
      refine lv_aload_n hx hb dX5_receive_31 rfl (lv_at hl 0 rfl) ?_
      refine rg_6_1 C hW (List.mem_append_right _ hmo) tw_139 dX5_receive_32 ?_
      refine lv_topi (fun x6 (e6 : x6 = I 6 1 o) => ?_)
      have t6 : x6.toInt = (I 6 1 o).toInt := by rw [e6]
      refine lv_bipush (v := 10) hx hb dX5_receive_35 (by decide) ?_
      refine lv_iload_n hx hb dX5_receive_37 rfl (lv_at hl 2 rfl) ?_
      refine lv_iadd hx hb dX5_receive_38 ?_
      refine lv_topi (fun x7 (e7 : x7 = 10 + a1) => ?_)
      refine lv_imul hx hb dX5_receive_39 ?_
      refine lv_topi (fun x8 (e8 : x8 = x6 * x7) => ?_)
      refine lv_bipush (v := 10) hx hb dX5_receive_40 (by decide) ?_
      refine lv_idiv hx hb dX5_receive_42 (by decide) ?_
      refine lv_topi (fun x9 (e9 : x9 = x8 / 10) => ?_)
      have t9 : x9.toInt = x8.toInt.tdiv 10 := tdiv e9 rfl kp10 (by decide)
      refine lv_isub hx hb dX5_receive_43 ?_
      refine lv_topi (fun x10 (e10 : x10 = x5 - x9) => ?_)
      refine lv_istore_n (lv' := [(3, .int x10), (0, .ref o), (1, .int a0), (2, .int a1)]) hx hb dX5_receive_44 rfl hl (by decide) rfl (fun ls hl => ?_)
      refine lv_aload_n hx hb dX5_receive_45 rfl (lv_at hl 1 rfl) ?_
      refine lv_iload_n hx hb dX5_receive_46 rfl (lv_at hl 0 rfl) ?_
      refine lv_if_le (tgt := 70) hx hb dX5_receive_47 (by decide) (fun c11 => ?_) (fun c11 => ?_)
      · have c11 : x10.toInt ≤ 0 := tle rfl kp0 c11
        refine lv_iconst (v := 0) hx hb dX5_receive_70 (by decide) ?_
        refine rp_6_7 C hW (List.mem_append_right _ hmo) tw_151 dX5_receive_71 (fun H locs hW => ?_)
        have hWr : WB g A s.heap H locs (J, L, (hv I [] [(6, 7)] (up3 I 6 7 o 0)), P, E, N) (sgX g ++ dy) := by
          rw [← ag_hvE (J := I) (R := []) (F := [(6, 7)]) (ag_up3 (Or.inr rfl) ag_rf)]
          exact hW
        exact end_v C hr hlocks (up3 I 6 7 o 0) hWr trivial dX5_receive_74
      · have c11 : 0 < x10.toInt := tnle rfl kp0 c11
        refine lv_iload_n hx hb dX5_receive_50 rfl (lv_at hl 0 rfl) ?_
        refine lv_aload_n hx hb dX5_receive_51 rfl (lv_at hl 1 rfl) ?_
        refine rg_6_3 C hW (List.mem_append_right _ hmo) tw_142 dX5_receive_52 ?_
        refine lv_topi (fun x12 (e12 : x12 = I 6 3 o) => ?_)
        have t12 : x12.toInt = (I 6 3 o).toInt := by rw [e12]
        refine lv_iadd hx hb dX5_receive_55 ?_
        refine lv_topi (fun x13 (e13 : x13 = x10 + x12) => ?_)
        refine lv_aload_n hx hb dX5_receive_56 rfl (lv_at hl 1 rfl) ?_
        refine rg_6_5 C hW (List.mem_append_right _ hmo) tw_146 dX5_receive_57 ?_
        refine lv_topi (fun x14 (e14 : x14 = I 6 5 o) => ?_)
        have t14 : x14.toInt = (I 6 5 o).toInt := by rw [e14]
        refine lv_iadd hx hb dX5_receive_60 ?_
        refine lv_topi (fun x15 (e15 : x15 = x13 + x14) => ?_)
        refine lv_sipush (v := 999) hx hb dX5_receive_61 (by decide) ?_
        refine va_mmin hx hb (C.1.2.2.1.trans hl.1.symm) C.1.2.2.2.1 (hts _ tw_536) (hts _ tw_225) (hts _ tw_74) (hts _ tw_226) (Nat.le_of_ble_eq_true rfl) (Nat.le_of_ble_eq_true rfl) (Nat.le_of_ble_eq_true rfl) (Nat.le_of_ble_eq_true rfl) dX5_receive_64 ?_
        refine lv_topi (fun x16 (e16 : x16 = if 999 < x15 then 999 else x15) => ?_)
        have t16 : x16.toInt = min x15.toInt 999 := tmin e16 rfl kp999
        refine lv_goto (tgt := 71) hx hb dX5_receive_67 (by decide) ?_
        refine rp_6_7 C hW (List.mem_append_right _ hmo) tw_151 dX5_receive_71 (fun H locs hW => ?_)
        have hWr : WB g A s.heap H locs (J, L, (hv I [] [(6, 7)] (up3 I 6 7 o x16)), P, E, N) (sgX g ++ dy) := by
          rw [← ag_hvE (J := I) (R := []) (F := [(6, 7)]) (ag_up3 (Or.inr rfl) ag_rf)]
          exact hW
        exact end_v C hr hlocks (up3 I 6 7 o x16) hWr trivial dX5_receive_74
    · have c3 : ¬ x2.toInt = 0 := tne rfl kp0 c3
      refine lv_iconst (v := 0) hx hb dX5_receive_20 (by decide) ?_
      refine lv_goto (tgt := 44) hx hb dX5_receive_21 (by decide) ?_
      refine lv_istore_n (lv' := [(3, .int 0), (0, .ref o), (1, .int a0), (2, .int a1)]) hx hb dX5_receive_44 rfl hl (by decide) rfl (fun ls hl => ?_)
      refine lv_aload_n hx hb dX5_receive_45 rfl (lv_at hl 1 rfl) ?_
      refine lv_iload_n hx hb dX5_receive_46 rfl (lv_at hl 0 rfl) ?_
      refine lv_if_le (tgt := 70) hx hb dX5_receive_47 (by decide) (fun c17 => ?_) (fun c17 => ?_)
      · skip
        refine lv_iconst (v := 0) hx hb dX5_receive_70 (by decide) ?_
        refine rp_6_7 C hW (List.mem_append_right _ hmo) tw_151 dX5_receive_71 (fun H locs hW => ?_)
        have hWr : WB g A s.heap H locs (J, L, (hv I [] [(6, 7)] (up3 I 6 7 o 0)), P, E, N) (sgX g ++ dy) := by
          rw [← ag_hvE (J := I) (R := []) (F := [(6, 7)]) (ag_up3 (Or.inr rfl) ag_rf)]
          exact hW
        exact end_v C hr hlocks (up3 I 6 7 o 0) hWr trivial dX5_receive_74
      · exact absurd (by decide) c17
