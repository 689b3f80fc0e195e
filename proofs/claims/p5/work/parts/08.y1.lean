theorem dX7_weigh_0 : decode cX7_weigh 0 = .ok (.aload_n 0, 1) := by decide +kernel
theorem dX7_weigh_1 : decode cX7_weigh 1 = .ok (.iconst 0, 1) := by decide +kernel
theorem dX7_weigh_2 : decode cX7_weigh 2 = .ok (.putfield 15, 3) := by decide +kernel
theorem dX7_weigh_5 : decode cX7_weigh 5 = .ok (.aload_n 1, 1) := by decide +kernel
theorem dX7_weigh_6 : decode cX7_weigh 6 = .ok (.astore_n 2, 1) := by decide +kernel
theorem dX7_weigh_7 : decode cX7_weigh 7 = .ok (.aload_n 2, 1) := by decide +kernel
theorem dX7_weigh_8 : decode cX7_weigh 8 = .ok (.arraylength, 1) := by decide +kernel
theorem dX7_weigh_9 : decode cX7_weigh 9 = .ok (.istore_n 3, 1) := by decide +kernel
theorem dX7_weigh_10 : decode cX7_weigh 10 = .ok (.iconst 0, 1) := by decide +kernel
theorem dX7_weigh_11 : decode cX7_weigh 11 = .ok (.istore 4, 2) := by decide +kernel
theorem dX7_weigh_13 : decode cX7_weigh 13 = .ok (.iload 4, 2) := by decide +kernel
theorem dX7_weigh_15 : decode cX7_weigh 15 = .ok (.iload_n 3, 1) := by decide +kernel
theorem dX7_weigh_16 : decode cX7_weigh 16 = .ok (.if_icmp .ge 59, 3) := by decide +kernel
theorem dX7_weigh_19 : decode cX7_weigh 19 = .ok (.aload_n 2, 1) := by decide +kernel
theorem dX7_weigh_20 : decode cX7_weigh 20 = .ok (.iload 4, 2) := by decide +kernel
theorem dX7_weigh_22 : decode cX7_weigh 22 = .ok (.iaload, 1) := by decide +kernel
theorem dX7_weigh_23 : decode cX7_weigh 23 = .ok (.istore 5, 2) := by decide +kernel
theorem dX7_weigh_25 : decode cX7_weigh 25 = .ok (.iload 5, 2) := by decide +kernel
theorem dX7_weigh_27 : decode cX7_weigh 27 = .ok (.ifCond .lt 12, 3) := by decide +kernel
theorem dX7_weigh_30 : decode cX7_weigh 30 = .ok (.aload_n 0, 1) := by decide +kernel
theorem dX7_weigh_31 : decode cX7_weigh 31 = .ok (.iload 5, 2) := by decide +kernel
theorem dX7_weigh_33 : decode cX7_weigh 33 = .ok (.invokevirtual 19, 3) := by decide +kernel
theorem dX7_weigh_36 : decode cX7_weigh 36 = .ok (.goto 33, 3) := by decide +kernel
theorem dX7_weigh_39 : decode cX7_weigh 39 = .ok (.iload 5, 2) := by decide +kernel
theorem dX7_weigh_41 : decode cX7_weigh 41 = .ok (.ineg, 1) := by decide +kernel
theorem dX7_weigh_42 : decode cX7_weigh 42 = .ok (.invokestatic 23, 3) := by decide +kernel
theorem dX7_weigh_45 : decode cX7_weigh 45 = .ok (.ifCond .eq 17, 3) := by decide +kernel
theorem dX7_weigh_48 : decode cX7_weigh 48 = .ok (.aload_n 0, 1) := by decide +kernel
theorem dX7_weigh_49 : decode cX7_weigh 49 = .ok (.aload_n 0, 1) := by decide +kernel
theorem dX7_weigh_50 : decode cX7_weigh 50 = .ok (.iload 5, 2) := by decide +kernel
theorem dX7_weigh_52 : decode cX7_weigh 52 = .ok (.ineg, 1) := by decide +kernel
theorem dX7_weigh_53 : decode cX7_weigh 53 = .ok (.invokevirtual 29, 3) := by decide +kernel
theorem dX7_weigh_56 : decode cX7_weigh 56 = .ok (.invokevirtual 19, 3) := by decide +kernel
theorem dX7_weigh_59 : decode cX7_weigh 59 = .ok (.goto 10, 3) := by decide +kernel
theorem dX7_weigh_62 : decode cX7_weigh 62 = .ok (.aload_n 0, 1) := by decide +kernel
theorem dX7_weigh_63 : decode cX7_weigh 63 = .ok (.iload 5, 2) := by decide +kernel
theorem dX7_weigh_65 : decode cX7_weigh 65 = .ok (.ineg, 1) := by decide +kernel
theorem dX7_weigh_66 : decode cX7_weigh 66 = .ok (.invokevirtual 33, 3) := by decide +kernel
theorem dX7_weigh_69 : decode cX7_weigh 69 = .ok (.iinc 4 1, 3) := by decide +kernel
theorem dX7_weigh_72 : decode cX7_weigh 72 = .ok (.goto (-59), 3) := by decide +kernel
theorem dX7_weigh_75 : decode cX7_weigh 75 = .ok (.aload_n 0, 1) := by decide +kernel
theorem dX7_weigh_76 : decode cX7_weigh 76 = .ok (.getfield 15, 3) := by decide +kernel
theorem dX7_weigh_79 : decode cX7_weigh 79 = .ok (.ifCond .le 29, 3) := by decide +kernel
theorem dX7_weigh_82 : decode cX7_weigh 82 = .ok (.aload_n 0, 1) := by decide +kernel
theorem dX7_weigh_83 : decode cX7_weigh 83 = .ok (.getfield 15, 3) := by decide +kernel
theorem dX7_weigh_86 : decode cX7_weigh 86 = .ok (.aload_n 0, 1) := by decide +kernel
theorem dX7_weigh_87 : decode cX7_weigh 87 = .ok (.getfield 9, 3) := by decide +kernel
theorem dX7_weigh_90 : decode cX7_weigh 90 = .ok (.arraylength, 1) := by decide +kernel
theorem dX7_weigh_91 : decode cX7_weigh 91 = .ok (.if_icmp .gt 17, 3) := by decide +kernel
theorem dX7_weigh_94 : decode cX7_weigh 94 = .ok (.aload_n 0, 1) := by decide +kernel
theorem dX7_weigh_95 : decode cX7_weigh 95 = .ok (.getfield 9, 3) := by decide +kernel
theorem dX7_weigh_98 : decode cX7_weigh 98 = .ok (.aload_n 0, 1) := by decide +kernel
theorem dX7_weigh_99 : decode cX7_weigh 99 = .ok (.getfield 15, 3) := by decide +kernel
theorem dX7_weigh_102 : decode cX7_weigh 102 = .ok (.iconst 1, 1) := by decide +kernel
theorem dX7_weigh_103 : decode cX7_weigh 103 = .ok (.isub, 1) := by decide +kernel
theorem dX7_weigh_104 : decode cX7_weigh 104 = .ok (.iaload, 1) := by decide +kernel
theorem dX7_weigh_105 : decode cX7_weigh 105 = .ok (.goto 4, 3) := by decide +kernel
theorem dX7_weigh_108 : decode cX7_weigh 108 = .ok (.iconst 0, 1) := by decide +kernel
theorem dX7_weigh_109 : decode cX7_weigh 109 = .ok (.ireturn, 1) := by decide +kernel
set_option maxHeartbeats 4000000 in
set_option maxRecDepth 100000 in
theorem c_X7_weigh (l : Launch) (g : gG) (J : Nat → Nat → Int32) (L : Nat → Nat → Int64) (I : Nat → Nat → Nat → Int32) (P : Nat → Nat → Nat → Option Nat) (E : Nat → Option Nat) (N : Nat → Nat) (dy : List (Nat × Nat)) (sz : Nat) (a0 : Nat) (hm0 : (46, a0) ∈ dy) (hN : N a0 ≤ 60) : Met l yX7_weigh (WS yX7_weigh cX7_weigh 6 (some .int)) (RM (3) 0 0) (PC g [.ref (g.2.2.1 8), .ref a0] ((J, L, I, P, E, N), sgX g ++ dy) sz) (va_Qi (fun (r : Int32) (u : (Nat → Nat → Int32)) => True) (fun u t => at_ g (FR g ((J, L, I, P, E, N), sgX g ++ dy) sz) (((hv J [45] [(8, 1)] u), L, I, P, E, N), sgX g ++ dy) t) (FR g ((J, L, I, P, E, N), sgX g ++ dy) sz)) 0 0 (FR g ((J, L, I, P, E, N), sgX g ++ dy) sz) := by
  refine ent (by decide +kernel) (Nat.le_of_ble_eq_true rfl) ?_
  intro p e s m below meth c ls hsz C hW hr hlocks hname hl
  generalize FR g ((J, L, I, P, E, N), sgX g ++ dy) sz = A at C hW ⊢
  have hx := C.1.1
  have hb := C.1.2.1
  have hts := C.1.2.2.2.2
  have hl : lv_has ls 6 [(0, .ref (g.2.2.1 8)), (1, .ref a0)] := hl
  obtain ⟨H, hH⟩ : ∃ H : Heap, H = s.heap := ⟨_, rfl⟩
  obtain ⟨locs, hlocs⟩ : ∃ q : List Loc, q = [] := ⟨_, rfl⟩
  have hW : WB g A s.heap H locs (J, L, I, P, E, N) (sgX g ++ dy) := by rw [hH, hlocs]; exact hW
  refine start_ hH hlocs ?_
  refine lv_aload_n hx hb dX7_weigh_0 rfl (lv_at hl 0 rfl) ?_
  refine lv_iconst (v := 0) hx hb dX7_weigh_1 (by decide) ?_
  refine rp_8_1 C hW (mx_ rfl) tw_326 dX7_weigh_2 (fun H locs hW => ?_)
  refine lv_aload_n hx hb dX7_weigh_5 rfl (lv_at hl 1 rfl) ?_
  refine lv_astore_n (lv' := [(2, .ref a0), (0, .ref (g.2.2.1 8)), (1, .ref a0)]) hx hb dX7_weigh_6 rfl hl (by decide) rfl (fun ls hl => ?_)
  refine lv_aload_n hx hb dX7_weigh_7 rfl (lv_at hl 0 rfl) ?_
  obtain ⟨x1, e1⟩ : ∃ y : Int32, y = Int32.ofNat (N a0) := ⟨_, rfl⟩
  have t1 : x1.toInt = (N a0 : Int) := by rw [e1]; exact Int32.toInt_ofNat_of_lt (by omega)
  refine g_alen (t0 := 0) C hW (List.mem_append_right _ hm0) rfl rfl e1.symm dX7_weigh_8 ?_
  refine lv_istore_n (lv' := [(3, .int x1), (2, .ref a0), (0, .ref (g.2.2.1 8)), (1, .ref a0)]) hx hb dX7_weigh_9 rfl hl (by decide) rfl (fun ls hl => ?_)
  refine lv_iconst (v := 0) hx hb dX7_weigh_10 (by decide) ?_
  refine lv_istore (lv' := [(4, .int 0), (3, .int x1), (2, .ref a0), (0, .ref (g.2.2.1 8)), (1, .ref a0)]) hx hb dX7_weigh_11 hl (by decide) rfl (fun ls hl => ?_)
  have loop13 : ∀ (n : Nat) (m4 : Int32) (Gl2 : Nat → Nat → Int32) (H : Heap) (locs : List Loc) (ls : Array Slot), ((N a0 : Int) - m4.toInt).toNat < n → 0 ≤ m4.toInt → WB g A s.heap H locs ((hv (up2 J 8 1 0) [45] [(8, 1)] Gl2), L, I, P, E, N) (sgX g ++ dy) → lv_has ls 6 [(4, .int m4), (3, .int x1), (2, .ref a0), (0, .ref (g.2.2.1 8)), (1, .ref a0)] → W p l e (RM (3) 0 0) s m ([.ref (g.2.2.1 8), .ref a0] : List Value).toArray below meth c H locs 0 0 (MQ below (va_Qi (fun (r : Int32) (u : (Nat → Nat → Int32)) => True) (fun u t => at_ g A (((hv J [45] [(8, 1)] u), L, I, P, E, N), sgX g ++ dy) t) A) ([.ref (g.2.2.1 8), .ref a0] : List Value).toArray s 0 0 A) (F0 m 13 ls []) := by
    intro n
    induction n with
    | zero => intro m4 Gl2 H locs ls hmeas; exact absurd hmeas (Nat.not_lt_zero _)
    | succ n ih =>
      intro m4 Gl2 H locs ls hmeas hi hW hl
      refine lv_iload hx hb dX7_weigh_13 (lv_at hl 0 rfl) ?_
      refine lv_iload_n hx hb dX7_weigh_15 rfl (lv_at hl 1 rfl) ?_
      refine lv_icmp_ge (tgt := 75) hx hb dX7_weigh_16 (by decide) (fun c3 => ?_) (fun c3 => ?_)
      · have c3 : x1.toInt ≤ m4.toInt := tle rfl rfl c3
        refine lv_aload_n hx hb dX7_weigh_75 rfl (lv_at hl 3 rfl) ?_
        refine rg_8_1 C hW (mx_ rfl) tw_326 dX7_weigh_76 ?_
        refine lv_as (Gl2 8 1) rfl ?_
        refine lv_if_le (tgt := 108) hx hb dX7_weigh_79 (by decide) (fun c4 => ?_) (fun c4 => ?_)
        · have c4 : (Gl2 8 1).toInt ≤ 0 := tle rfl kp0 c4
          refine lv_iconst (v := 0) hx hb dX7_weigh_108 (by decide) ?_
          have hWr : WB g A s.heap H locs ((hv J [45] [(8, 1)] (hv (up2 J 8 1 0) [45] [(8, 1)] Gl2)), L, I, P, E, N) (sgX g ++ dy) := by
            rw [← ag_hvE (J := J) (R := [45]) (F := [(8, 1)]) (ag_hv rfl rfl (ag_up (Or.inr rfl) ag_rf))]
            exact hW
          exact end_i C hr hlocks (hv (up2 J 8 1 0) [45] [(8, 1)] Gl2) hWr trivial dX7_weigh_109
        · have c4 : 0 < (Gl2 8 1).toInt := tnle rfl kp0 c4
          refine lv_aload_n hx hb dX7_weigh_82 rfl (lv_at hl 3 rfl) ?_
          refine rg_8_1 C hW (mx_ rfl) tw_326 dX7_weigh_83 ?_
          refine lv_as (Gl2 8 1) rfl ?_
          refine lv_aload_n hx hb dX7_weigh_86 rfl (lv_at hl 3 rfl) ?_
          refine rg_8_0 C hW (mx_ rfl) tw_325 dX7_weigh_87 ?_
          refine rl_45 C hW (mx_ rfl) dX7_weigh_90 ?_
          refine lv_icmp_gt (tgt := 108) hx hb dX7_weigh_91 (by decide) (fun c5 => ?_) (fun c5 => ?_)
          · have c5 : 60 < (Gl2 8 1).toInt := tlt kp60 rfl c5
            refine lv_iconst (v := 0) hx hb dX7_weigh_108 (by decide) ?_
            have hWr : WB g A s.heap H locs ((hv J [45] [(8, 1)] (hv (up2 J 8 1 0) [45] [(8, 1)] Gl2)), L, I, P, E, N) (sgX g ++ dy) := by
              rw [← ag_hvE (J := J) (R := [45]) (F := [(8, 1)]) (ag_hv rfl rfl (ag_up (Or.inr rfl) ag_rf))]
              exact hW
            exact end_i C hr hlocks (hv (up2 J 8 1 0) [45] [(8, 1)] Gl2) hWr trivial dX7_weigh_109
          · have c5 : (Gl2 8 1).toInt ≤ 60 := tnlt kp60 rfl c5
            refine lv_aload_n hx hb dX7_weigh_94 rfl (lv_at hl 3 rfl) ?_
            refine rg_8_0 C hW (mx_ rfl) tw_325 dX7_weigh_95 ?_
            refine lv_aload_n hx hb dX7_weigh_98 rfl (lv_at hl 3 rfl) ?_
            refine rg_8_1 C hW (mx_ rfl) tw_326 dX7_weigh_99 ?_
            refine lv_as (Gl2 8 1) rfl ?_
            refine lv_iconst (v := 1) hx hb dX7_weigh_102 (by decide) ?_
            refine lv_isub hx hb dX7_weigh_103 ?_
            refine lv_topi (fun x6 (e6 : x6 = (Gl2 8 1) - 1) => ?_)
            try have t6 : x6.toInt = (Gl2 8 1).toInt - 1 := tsub e6 rfl kp1 (by omega)
            have hin : vp_in x6 60 := tin rfl (by omega)
            refine ra_45 C hW (mx_ rfl) hin dX7_weigh_104 ?_
            refine lv_topi (fun x7 (e7 : x7 = Gl2 45 x6.toNatClampNeg) => ?_)
            refine lv_goto (tgt := 109) hx hb dX7_weigh_105 (by decide) ?_
            have hWr : WB g A s.heap H locs ((hv J [45] [(8, 1)] (hv (up2 J 8 1 0) [45] [(8, 1)] Gl2)), L, I, P, E, N) (sgX g ++ dy) := by
              rw [← ag_hvE (J := J) (R := [45]) (F := [(8, 1)]) (ag_hv rfl rfl (ag_up (Or.inr rfl) ag_rf))]
              exact hW
            exact end_i C hr hlocks (hv (up2 J 8 1 0) [45] [(8, 1)] Gl2) hWr trivial dX7_weigh_109
      · have c3 : m4.toInt < x1.toInt := tnle rfl rfl c3
        refine lv_aload_n hx hb dX7_weigh_19 rfl (lv_at hl 2 rfl) ?_
        refine lv_iload hx hb dX7_weigh_20 (lv_at hl 0 rfl) ?_
        have hin22 : vp_in m4 (N a0) := tin rfl (by omega)
        refine g_iald C hW (List.mem_append_right _ hm0) rfl hin22 dX7_weigh_22 ?_
        refine lv_topi (fun x8 (e8 : x8 = I 46 m4.toNatClampNeg a0) => ?_)
        refine lv_istore (lv' := [(5, .int x8), (4, .int m4), (3, .int x1), (2, .ref a0), (0, .ref (g.2.2.1 8)), (1, .ref a0)]) hx hb dX7_weigh_23 hl (by decide) rfl (fun ls hl => ?_)
        refine lv_iload hx hb dX7_weigh_25 (lv_at hl 0 rfl) ?_
        refine lv_if_lt (tgt := 39) hx hb dX7_weigh_27 (by decide) (fun c9 => ?_) (fun c9 => ?_)
        · have c9 : x8.toInt < 0 := tlt rfl kp0 c9
          refine lv_iload hx hb dX7_weigh_39 (lv_at hl 0 rfl) ?_
          refine lv_ineg hx hb dX7_weigh_41 ?_
          refine lv_topi (fun x10 (e10 : x10 = -x8) => ?_)
          try have t10 : x10.toInt = -x8.toInt := tneg e10 rfl (by omega)
          refine ci_ C hW (runSN (As := [.int x10]) (rest := []) (T := (((hv (up2 J 8 1 0) [45] [(8, 1)] Gl2), L, I, P, E, N), sgX g ++ dy)) C hW (c_X10_isLetter l g (hv (up2 J 8 1 0) [45] [(8, 1)] Gl2) L I P E N dy H.size x10 ) mi_X10_isLetter (List.mem_of_getElem? (i := 3) rfl) ⟨rfl, rfl, Nat.le_of_ble_eq_true rfl, Nat.le_of_ble_eq_true rfl⟩ rfl hl.1 rfl (Nat.le_of_ble_eq_true rfl) dX7_weigh_42 ⟨Nat.le_of_ble_eq_true rfl, Nat.le_of_ble_eq_true rfl⟩) (fun r11 u11 H locs hp11 hW => ?_)
          have hc11 : ((r11.toInt = 1) ∨ (r11.toInt = 0)) := hp11
          clear hp11
          have hW : WB g A s.heap H locs ((hv (up2 J 8 1 0) [45] [(8, 1)] Gl2), L, I, P, E, N) (sgX g ++ dy) := hW
          refine lv_if_eq (tgt := 62) hx hb dX7_weigh_45 (by decide) (fun c12 => ?_) (fun c12 => ?_)
          · have c12 : r11.toInt = 0 := teq rfl kp0 c12
            refine lv_aload_n hx hb dX7_weigh_62 rfl (lv_at hl 4 rfl) ?_
            refine lv_iload hx hb dX7_weigh_63 (lv_at hl 0 rfl) ?_
            refine lv_ineg hx hb dX7_weigh_65 ?_
            refine lv_topi (fun x13 (e13 : x13 = -x8) => ?_)
            try have t13 : x13.toInt = -x8.toInt := tneg e13 rfl (by omega)
            refine cv_ C hW (runV (x := (g.2.2.1 8)) (As := [.int x13]) (rest := []) (T := (((hv (up2 J 8 1 0) [45] [(8, 1)] Gl2), L, I, P, E, N), sgX g ++ dy)) C hW (c_X7_join l g (hv (up2 J 8 1 0) [45] [(8, 1)] Gl2) L I P E N dy H.size x13 ) mi_X7_join tw_681 (recv_ (T := (((hv (up2 J 8 1 0) [45] [(8, 1)] Gl2), L, I, P, E, N), sgX g ++ dy)) C hW (mx_ rfl) rfl rfl) ⟨rfl, rfl, Nat.le_of_ble_eq_true rfl, Nat.le_of_ble_eq_true rfl⟩ rfl hl.1 rfl (Nat.le_of_ble_eq_true rfl) dX7_weigh_66 ⟨Nat.le_of_ble_eq_true rfl, Nat.le_of_ble_eq_true rfl⟩) (fun u14 H locs hp14 hW => ?_)
            have hW : WB g A s.heap H locs ((hv (hv (up2 J 8 1 0) [45] [(8, 1)] Gl2) [45] [(8, 1)] u14), L, I, P, E, N) (sgX g ++ dy) := hW
            obtain ⟨x15, e15⟩ : ∃ y : Int32, y = m4 + 1 := ⟨_, rfl⟩
            refine lv_iinc (v := x15) (lv' := [(4, .int x15), (5, .int x8), (3, .int x1), (2, .ref a0), (0, .ref (g.2.2.1 8)), (1, .ref a0)]) hx hb dX7_weigh_69 hl (k := 1) rfl (by rw [e15]; rfl) (by decide) rfl (fun ls hl => ?_)
            try have t15 : x15.toInt = m4.toInt + 1 := tadd e15 rfl kp1 (by omega)
            refine lv_goto (tgt := 13) hx hb dX7_weigh_72 (by decide) ?_
            have hWl : WB g A s.heap H locs ((hv (up2 J 8 1 0) [45] [(8, 1)] (hv (hv (up2 J 8 1 0) [45] [(8, 1)] Gl2) [45] [(8, 1)] u14)), L, I, P, E, N) (sgX g ++ dy) := by
              rw [← ag_hvE (J := (up2 J 8 1 0)) (R := [45]) (F := [(8, 1)]) (ag_hv rfl rfl (ag_hv rfl rfl ag_rf))]
              exact hW
            refine ih x15 (hv (hv (up2 J 8 1 0) [45] [(8, 1)] Gl2) [45] [(8, 1)] u14) H locs ls ?_ ?_ hWl (lv_sub hl [0, 2, 3, 4, 5] rfl)
            · show ((N a0 : Int) - x15.toInt).toNat < n
              omega
            · show 0 ≤ x15.toInt
              first | omega | exact hi | assumption
          · have c12 : ¬ r11.toInt = 0 := tne rfl kp0 c12
            refine lv_aload_n hx hb dX7_weigh_48 rfl (lv_at hl 4 rfl) ?_
            refine lv_aload_n hx hb dX7_weigh_49 rfl (lv_at hl 4 rfl) ?_
            refine lv_iload hx hb dX7_weigh_50 (lv_at hl 0 rfl) ?_
            refine lv_ineg hx hb dX7_weigh_52 ?_
            refine lv_topi (fun x16 (e16 : x16 = -x8) => ?_)
            try have t16 : x16.toInt = -x8.toInt := tneg e16 rfl (by omega)
            refine ci_ C hW (runV (x := (g.2.2.1 8)) (As := [.int x16]) (rest := [.ref (g.2.2.1 8)]) (T := (((hv (up2 J 8 1 0) [45] [(8, 1)] Gl2), L, I, P, E, N), sgX g ++ dy)) C hW (c_X7_letter l g (hv (up2 J 8 1 0) [45] [(8, 1)] Gl2) L I P E N dy H.size x16 ) mi_X7_letter tw_677 (recv_ (T := (((hv (up2 J 8 1 0) [45] [(8, 1)] Gl2), L, I, P, E, N), sgX g ++ dy)) C hW (mx_ rfl) rfl rfl) ⟨rfl, rfl, Nat.le_of_ble_eq_true rfl, Nat.le_of_ble_eq_true rfl⟩ rfl hl.1 rfl (Nat.le_of_ble_eq_true rfl) dX7_weigh_53 ⟨Nat.le_of_ble_eq_true rfl, Nat.le_of_ble_eq_true rfl⟩) (fun r17 u17 H locs hp17 hW => ?_)
            have hW : WB g A s.heap H locs ((hv (up2 J 8 1 0) [45] [(8, 1)] Gl2), L, I, P, E, N) (sgX g ++ dy) := hW
            refine cv_ C hW (runV (x := (g.2.2.1 8)) (As := [.int r17]) (rest := []) (T := (((hv (up2 J 8 1 0) [45] [(8, 1)] Gl2), L, I, P, E, N), sgX g ++ dy)) C hW (c_X7_push l g (hv (up2 J 8 1 0) [45] [(8, 1)] Gl2) L I P E N dy H.size r17 ) mi_X7_push tw_670 (recv_ (T := (((hv (up2 J 8 1 0) [45] [(8, 1)] Gl2), L, I, P, E, N), sgX g ++ dy)) C hW (mx_ rfl) rfl rfl) ⟨rfl, rfl, Nat.le_of_ble_eq_true rfl, Nat.le_of_ble_eq_true rfl⟩ rfl hl.1 rfl (Nat.le_of_ble_eq_true rfl) dX7_weigh_56 ⟨Nat.le_of_ble_eq_true rfl, Nat.le_of_ble_eq_true rfl⟩) (fun u18 H locs hp18 hW => ?_)
            have hW : WB g A s.heap H locs ((hv (hv (up2 J 8 1 0) [45] [(8, 1)] Gl2) [45] [(8, 1)] u18), L, I, P, E, N) (sgX g ++ dy) := hW
            refine lv_goto (tgt := 69) hx hb dX7_weigh_59 (by decide) ?_
            obtain ⟨x19, e19⟩ : ∃ y : Int32, y = m4 + 1 := ⟨_, rfl⟩
            refine lv_iinc (v := x19) (lv' := [(4, .int x19), (5, .int x8), (3, .int x1), (2, .ref a0), (0, .ref (g.2.2.1 8)), (1, .ref a0)]) hx hb dX7_weigh_69 hl (k := 1) rfl (by rw [e19]; rfl) (by decide) rfl (fun ls hl => ?_)
            try have t19 : x19.toInt = m4.toInt + 1 := tadd e19 rfl kp1 (by omega)
            refine lv_goto (tgt := 13) hx hb dX7_weigh_72 (by decide) ?_
            have hWl : WB g A s.heap H locs ((hv (up2 J 8 1 0) [45] [(8, 1)] (hv (hv (up2 J 8 1 0) [45] [(8, 1)] Gl2) [45] [(8, 1)] u18)), L, I, P, E, N) (sgX g ++ dy) := by
              rw [← ag_hvE (J := (up2 J 8 1 0)) (R := [45]) (F := [(8, 1)]) (ag_hv rfl rfl (ag_hv rfl rfl ag_rf))]
              exact hW
            refine ih x19 (hv (hv (up2 J 8 1 0) [45] [(8, 1)] Gl2) [45] [(8, 1)] u18) H locs ls ?_ ?_ hWl (lv_sub hl [0, 2, 3, 4, 5] rfl)
            · show ((N a0 : Int) - x19.toInt).toNat < n
              omega
            · show 0 ≤ x19.toInt
              first | omega | exact hi | assumption
        · have c9 : 0 ≤ x8.toInt := tnlt rfl kp0 c9
          refine lv_aload_n hx hb dX7_weigh_30 rfl (lv_at hl 4 rfl) ?_
          refine lv_iload hx hb dX7_weigh_31 (lv_at hl 0 rfl) ?_
          refine cv_ C hW (runV (x := (g.2.2.1 8)) (As := [.int x8]) (rest := []) (T := (((hv (up2 J 8 1 0) [45] [(8, 1)] Gl2), L, I, P, E, N), sgX g ++ dy)) C hW (c_X7_push l g (hv (up2 J 8 1 0) [45] [(8, 1)] Gl2) L I P E N dy H.size x8 ) mi_X7_push tw_670 (recv_ (T := (((hv (up2 J 8 1 0) [45] [(8, 1)] Gl2), L, I, P, E, N), sgX g ++ dy)) C hW (mx_ rfl) rfl rfl) ⟨rfl, rfl, Nat.le_of_ble_eq_true rfl, Nat.le_of_ble_eq_true rfl⟩ rfl hl.1 rfl (Nat.le_of_ble_eq_true rfl) dX7_weigh_33 ⟨Nat.le_of_ble_eq_true rfl, Nat.le_of_ble_eq_true rfl⟩) (fun u20 H locs hp20 hW => ?_)
          have hW : WB g A s.heap H locs ((hv (hv (up2 J 8 1 0) [45] [(8, 1)] Gl2) [45] [(8, 1)] u20), L, I, P, E, N) (sgX g ++ dy) := hW
          refine lv_goto (tgt := 69) hx hb dX7_weigh_36 (by decide) ?_
          obtain ⟨x21, e21⟩ : ∃ y : Int32, y = m4 + 1 := ⟨_, rfl⟩
          refine lv_iinc (v := x21) (lv' := [(4, .int x21), (5, .int x8), (3, .int x1), (2, .ref a0), (0, .ref (g.2.2.1 8)), (1, .ref a0)]) hx hb dX7_weigh_69 hl (k := 1) rfl (by rw [e21]; rfl) (by decide) rfl (fun ls hl => ?_)
          try have t21 : x21.toInt = m4.toInt + 1 := tadd e21 rfl kp1 (by omega)
          refine lv_goto (tgt := 13) hx hb dX7_weigh_72 (by decide) ?_
          have hWl : WB g A s.heap H locs ((hv (up2 J 8 1 0) [45] [(8, 1)] (hv (hv (up2 J 8 1 0) [45] [(8, 1)] Gl2) [45] [(8, 1)] u20)), L, I, P, E, N) (sgX g ++ dy) := by
            rw [← ag_hvE (J := (up2 J 8 1 0)) (R := [45]) (F := [(8, 1)]) (ag_hv rfl rfl (ag_hv rfl rfl ag_rf))]
            exact hW
          refine ih x21 (hv (hv (up2 J 8 1 0) [45] [(8, 1)] Gl2) [45] [(8, 1)] u20) H locs ls ?_ ?_ hWl (lv_sub hl [0, 2, 3, 4, 5] rfl)
          · show ((N a0 : Int) - x21.toInt).toNat < n
            omega
          · show 0 ≤ x21.toInt
            first | omega | exact hi | assumption
  -- into the loop
  have hWl : WB g A s.heap H locs ((hv (up2 J 8 1 0) [45] [(8, 1)] (up2 J 8 1 0)), L, I, P, E, N) (sgX g ++ dy) := by
    rw [← ag_hvE (J := (up2 J 8 1 0)) (R := [45]) (F := [(8, 1)]) ag_rf]
    exact hW
  refine loop13 (((N a0 : Int) - (0 : Int32).toInt).toNat + 1) 0 (up2 J 8 1 0) H locs ls ?_ ?_ hWl (lv_sub hl [0, 1, 2, 3, 4] rfl)
  · exact Nat.lt_succ_self _
  · show 0 ≤ (0 : Int32).toInt
    try rw [kp0]
    first | omega | exact hi | assumption
