set_option maxHeartbeats 4000000 in
set_option maxRecDepth 100000 in
theorem c_X12_rights_k (l : Launch) (g : gG) (J : Nat → Nat → Int32) (L : Nat → Nat → Int64) (I : Nat → Nat → Nat → Int32) (P : Nat → Nat → Nat → Option Nat) (E : Nat → Option Nat) (N : Nat → Nat) (sz : Nat) (a0 : Int32) (a1 : Int32) (a2 : Int32) (hwm : WM J) (hcac : CAC J) : Met l yX12_rights (WS yX12_rights cX12_rights 9 (some .int)) (RM (35) 0 0) (PC g [.ref (g.2.2.1 13), .int a0, .int a1, .int a2] ((J, L, I, P, E, N), sgM g) sz) (va_Qi (fun (r : Int32) (u : (Nat → Nat → Int32)) => (CAC (hv J [100, 146, 150, 151, 152, 154, 165, 166, 167] [(13, 47), (13, 48), (13, 56), (13, 57), (13, 58), (13, 59), (13, 60), (13, 68)] u))) (fun u t => at_ g (FR g ((J, L, I, P, E, N), sgM g) sz) ((hv J [100, 146, 150, 151, 152, 154, 165, 166, 167] [(13, 47), (13, 48), (13, 56), (13, 57), (13, 58), (13, 59), (13, 60), (13, 68)] u, L, I, P, E, N), sgM g) t) (FR g ((J, L, I, P, E, N), sgM g) sz)) 0 0 (FR g ((J, L, I, P, E, N), sgM g) sz) := by
  refine ent (by decide +kernel) (Nat.le_of_ble_eq_true rfl) ?_
  intro p e s m below meth c ls hsz C hW hr hlocks hname hl
  generalize FR g ((J, L, I, P, E, N), sgM g) sz = A at C hW ⊢
  generalize hQ9 : (va_Qi (fun (r : Int32) (u : (Nat → Nat → Int32)) => (CAC (hv J [100, 146, 150, 151, 152, 154, 165, 166, 167] [(13, 47), (13, 48), (13, 56), (13, 57), (13, 58), (13, 59), (13, 60), (13, 68)] u))) (fun u t => at_ g A ((hv J [100, 146, 150, 151, 152, 154, 165, 166, 167] [(13, 47), (13, 48), (13, 56), (13, 57), (13, 58), (13, 59), (13, 60), (13, 68)] u, L, I, P, E, N), sgM g) t) A) = Q9
  have hx := C.1.1
  have hb := C.1.2.1
  have hts := C.1.2.2.2.2
  have hW : WB g A s.heap s.heap [] (J, L, I, P, E, N) (sgM g) := hW
  have hl : lv_has ls 9 [(0, .ref (g.2.2.1 13)), (1, .int a0), (2, .int a1), (3, .int a2)] := hl
  obtain ⟨H, hH⟩ : ∃ H : Heap, H = s.heap := ⟨_, rfl⟩
  obtain ⟨locs, hlocs⟩ : ∃ q : List Loc, q = [] := ⟨_, rfl⟩
  have hW : WB g A s.heap H locs (J, L, I, P, E, N) (sgM g) := by rw [hH, hlocs]; exact hW
  obtain ⟨⟨hnd1, hnd2, hon, hhm1, hhm2, hhN, hcu1, hcu2, hco1, hco2, hcN⟩, ⟨hrd1, hrd2⟩, ⟨hnw1, hnw2, hns1, hns2, hof⟩, ⟨htm1, htm2, hts_⟩, ⟨had1, had2, hrw1, hrw2, htp1, htp2⟩⟩ := id hwm
  refine start_ hH hlocs ?_
  refine lv_aload_n hx hb dX12_rights_0 rfl (lv_at hl 0 rfl) ?_
  refine lv_iload_n hx hb dX12_rights_1 rfl (lv_at hl 1 rfl) ?_
  refine lv_iload_n hx hb dX12_rights_2 rfl (lv_at hl 2 rfl) ?_
  refine lv_iload_n hx hb dX12_rights_3 rfl (lv_at hl 3 rfl) ?_
  refine ci_ C hW (runV (x := (g.2.2.1 13)) (As := [.int a0, .int a1, .int a2]) (rest := []) (T := ((J, L, I, P, E, N), sgM g)) C hW (c_X12_wrongHours l g J L I P E N H.size a0 a1 a2 hwm) mi_X12_wrongHours tw_1479 (recv_ (T := ((J, L, I, P, E, N), sgM g)) C hW (mm_ rfl) rfl rfl) ⟨rfl, rfl, Nat.le_of_ble_eq_true rfl, Nat.le_of_ble_eq_true rfl⟩ rfl hl.1 rfl (Nat.le_of_ble_eq_true rfl) dX12_rights_4 ⟨Nat.le_of_ble_eq_true rfl, Nat.le_of_ble_eq_true rfl⟩) (fun r1 u1 H locs hp1 hW => ?_)
  have hc1 : ((r1.toInt = (-1) ∧ (¬ (0 ≤ a0.toInt ∧ a0.toInt < (J 13 31).toInt))) ∨ (r1.toInt = (-4) ∧ (0 ≤ a0.toInt ∧ a0.toInt < (J 13 31).toInt)) ∨ (r1.toInt = (-6) ∧ (0 ≤ a0.toInt ∧ a0.toInt < (J 13 31).toInt)) ∨ (r1.toInt = 0 ∧ (0 ≤ a0.toInt ∧ a0.toInt < (J 13 31).toInt))) := hp1
  clear hp1
  have hW : WB g A s.heap H locs (J, L, I, P, E, N) (sgM g) := hW
  refine lv_istore (lv' := [(4, .int r1), (0, .ref (g.2.2.1 13)), (1, .int a0), (2, .int a1), (3, .int a2)]) hx hb dX12_rights_7 hl (by decide) rfl (fun ls hl => ?_)
  refine lv_iload hx hb dX12_rights_9 (lv_at hl 0 rfl) ?_
  refine lv_if_ne (tgt := 27) hx hb dX12_rights_11 (by decide) (fun c2 => ?_) (fun c2 => ?_)
  · have c2 : ¬ r1.toInt = 0 := tne rfl kp0 c2
    refine lv_iload hx hb dX12_rights_27 (lv_at hl 0 rfl) ?_
    refine lv_if_eq (tgt := 39) hx hb dX12_rights_29 (by decide) (fun c3 => ?_) (fun c3 => ?_)
    · have c3 : r1.toInt = 0 := teq rfl kp0 c3
      exfalso; omega
    · have c3 : ¬ r1.toInt = 0 := tne rfl kp0 c3
      refine lv_aload_n hx hb dX12_rights_32 rfl (lv_at hl 1 rfl) ?_
      refine lv_iload hx hb dX12_rights_33 (lv_at hl 0 rfl) ?_
      refine ci_ C hW (runV (x := (g.2.2.1 13)) (As := [.int r1]) (rest := []) (T := ((J, L, I, P, E, N), sgM g)) C hW (c_X12_refuse l g J L I P E N H.size r1 (show -6 ≤ r1.toInt ∧ r1.toInt ≤ -1 from by omega)) mi_X12_refuse tw_1239 (recv_ (T := ((J, L, I, P, E, N), sgM g)) C hW (mm_ rfl) rfl rfl) ⟨rfl, rfl, Nat.le_of_ble_eq_true rfl, Nat.le_of_ble_eq_true rfl⟩ rfl hl.1 rfl (Nat.le_of_ble_eq_true rfl) dX12_rights_35 ⟨Nat.le_of_ble_eq_true rfl, Nat.le_of_ble_eq_true rfl⟩) (fun r4 u4 H locs hp4 hW => ?_)
      have hc4 : ((r4 = r1)) := hp4
      clear hp4
      have hr4 : r4.toInt = (r1).toInt := by rw [hc4]
      have hW : WB g A s.heap H locs ((hv J [100] [] u4), L, I, P, E, N) (sgM g) := hW
      have hWr : WB g A s.heap H locs (hv J [100, 146, 150, 151, 152, 154, 165, 166, 167] [(13, 47), (13, 48), (13, 56), (13, 57), (13, 58), (13, 59), (13, 60), (13, 68)] (hv J [100] [] u4), L, I, P, E, N) (sgM g) := by
        rw [← ag_hvE (J := J) (R := [100, 146, 150, 151, 152, 154, 165, 166, 167]) (F := [(13, 47), (13, 48), (13, 56), (13, 57), (13, 58), (13, 59), (13, 60), (13, 68)]) (ag_hv rfl rfl ag_rf)]
        exact hW
      subst hQ9
      exact end_i C hr hlocks (hv J [100] [] u4) hWr (show CAC (hv J [100, 146, 150, 151, 152, 154, 165, 166, 167] [(13, 47), (13, 48), (13, 56), (13, 57), (13, 58), (13, 59), (13, 60), (13, 68)] (hv J [100] [] u4)) from by rw [← ag_hvE (J := J) (R := [100, 146, 150, 151, 152, 154, 165, 166, 167]) (F := [(13, 47), (13, 48), (13, 56), (13, 57), (13, 58), (13, 59), (13, 60), (13, 68)]) (ag_hv rfl rfl ag_rf)]; exact cac_e (J := J) ⟨rfl, rfl, rfl, rfl, rfl, rfl, rfl, rfl, rfl, rfl, rfl, rfl, rfl, rfl, rfl, rfl, rfl, rfl, rfl, rfl⟩ rfl rfl rfl hcac) dX12_rights_38
  · have c2 : r1.toInt = 0 := teq rfl kp0 c2
    refine lv_iload_n hx hb dX12_rights_14 rfl (lv_at hl 3 rfl) ?_
    refine ci_ C hW (runS (As := [.int a1]) (rest := []) (T := ((J, L, I, P, E, N), sgM g)) C hW (c_X12_bits l g J L I P E N H.size a1 ) mi_X12_bits tw_1460 ⟨rfl, rfl, Nat.le_of_ble_eq_true rfl, Nat.le_of_ble_eq_true rfl⟩ rfl hl.1 rfl (Nat.le_of_ble_eq_true rfl) dX12_rights_15 ⟨Nat.le_of_ble_eq_true rfl, Nat.le_of_ble_eq_true rfl⟩) (fun r5 u5 H locs hp5 hW => ?_)
    have hW : WB g A s.heap H locs (J, L, I, P, E, N) (sgM g) := hW
    refine lv_bipush (v := 12) hx hb dX12_rights_18 (by decide) ?_
    refine lv_icmp_le (tgt := 27) hx hb dX12_rights_20 (by decide) (fun c6 => ?_) (fun c6 => ?_)
    · have c6 : r5.toInt ≤ 12 := tle rfl kp12 c6
      refine lv_iload hx hb dX12_rights_27 (lv_at hl 0 rfl) ?_
      refine lv_if_eq (tgt := 39) hx hb dX12_rights_29 (by decide) (fun c7 => ?_) (fun c7 => ?_)
      · have c7 : r1.toInt = 0 := teq rfl kp0 c7
        refine lv_aload_n hx hb dX12_rights_39 rfl (lv_at hl 1 rfl) ?_
        refine lv_iconst (v := 2) hx hb dX12_rights_40 (by decide) ?_
        refine lv_iload_n hx hb dX12_rights_41 rfl (lv_at hl 2 rfl) ?_
        refine ci_ C hW (runV (x := (g.2.2.1 13)) (As := [.int 2, .int a0]) (rest := []) (T := ((J, L, I, P, E, N), sgM g)) C hW (c_X12_worthOf_e l g J L I P E N H.size 2 a0 hwm (show 0 ≤ a0.toInt ∧ a0.toInt < (J 13 31).toInt from by (try simp only [kp2]); omega) (show CAC J from hcac)) mi_X12_worthOf tw_1424 (recv_ (T := ((J, L, I, P, E, N), sgM g)) C hW (mm_ rfl) rfl rfl) ⟨rfl, rfl, Nat.le_of_ble_eq_true rfl, Nat.le_of_ble_eq_true rfl⟩ rfl hl.1 rfl (Nat.le_of_ble_eq_true rfl) dX12_rights_42 ⟨Nat.le_of_ble_eq_true rfl, Nat.le_of_ble_eq_true rfl⟩) (fun r8 u8 H locs hp8 hW => ?_)
        obtain ⟨hf8_0, hf8_1⟩ : (∃ s o d : Int32, ((J 116 a0.toNatClampNeg).toInt = 6 → s.toInt = 0 ∧ o.toInt = 0) ∧ (¬ (J 116 a0.toNatClampNeg).toInt = 6 → CAV J a0.toNatClampNeg s.toInt o.toInt) ∧ ((¬ (2 : Int) = 2 → d.toInt = 0) ∧ ((2 : Int) = 2 → d = o)) ∧ WVM (J 121) (J 122) (J 123) (J 124) (SCL (J 116 a0.toNatClampNeg) (hrw a0.toInt) (J 118 a0.toNatClampNeg) s o (J 120 a0.toNatClampNeg) (J 13 31 - a0) (J 13 35)) (J 13 40).toInt 2 a0.toInt d r8) ∧ (CAC (hv J [146, 150, 151, 152, 154] [(13, 47), (13, 48), (13, 56), (13, 57), (13, 58), (13, 59), (13, 60)] u8)) := hp8
        have hW : WB g A s.heap H locs ((hv J [146, 150, 151, 152, 154] [(13, 47), (13, 48), (13, 56), (13, 57), (13, 58), (13, 59), (13, 60)] u8), L, I, P, E, N) (sgM g) := hW
        have hCC := hf8_1
        refine lv_istore (lv' := [(5, .int r8), (4, .int r1), (0, .ref (g.2.2.1 13)), (1, .int a0), (2, .int a1), (3, .int a2)]) hx hb dX12_rights_45 hl (by decide) rfl (fun ls hl => ?_)
        refine lv_aload_n hx hb dX12_rights_47 rfl (lv_at hl 2 rfl) ?_
        refine lv_iload_n hx hb dX12_rights_48 rfl (lv_at hl 3 rfl) ?_
        refine lv_iload_n hx hb dX12_rights_49 rfl (lv_at hl 5 rfl) ?_
        refine cv_ C hW (runV (x := (g.2.2.1 13)) (As := [.int a0, .int a2]) (rest := []) (T := (((hv J [146, 150, 151, 152, 154] [(13, 47), (13, 48), (13, 56), (13, 57), (13, 58), (13, 59), (13, 60)] u8), L, I, P, E, N), sgM g)) C hW (c_X12_asks l g (hv J [146, 150, 151, 152, 154] [(13, 47), (13, 48), (13, 56), (13, 57), (13, 58), (13, 59), (13, 60)] u8) L I P E N H.size a0 a2 hwm (show 0 ≤ a0.toInt ∧ a0.toInt < 10000 from by omega)) mi_X12_asks tw_1483 (recv_ (T := (((hv J [146, 150, 151, 152, 154] [(13, 47), (13, 48), (13, 56), (13, 57), (13, 58), (13, 59), (13, 60)] u8), L, I, P, E, N), sgM g)) C hW (mm_ rfl) rfl rfl) ⟨rfl, rfl, Nat.le_of_ble_eq_true rfl, Nat.le_of_ble_eq_true rfl⟩ rfl hl.1 rfl (Nat.le_of_ble_eq_true rfl) dX12_rights_50 ⟨Nat.le_of_ble_eq_true rfl, Nat.le_of_ble_eq_true rfl⟩) (fun u9 H locs hp9 hW => ?_)
        have hW : WB g A s.heap H locs ((hv (hv J [146, 150, 151, 152, 154] [(13, 47), (13, 48), (13, 56), (13, 57), (13, 58), (13, 59), (13, 60)] u8) [146, 165, 166] [] u9), L, I, P, E, N) (sgM g) := hW
        refine lv_aload_n hx hb dX12_rights_53 rfl (lv_at hl 2 rfl) ?_
        refine cv_ C hW (runV (x := (g.2.2.1 13)) (As := []) (rest := []) (T := (((hv (hv J [146, 150, 151, 152, 154] [(13, 47), (13, 48), (13, 56), (13, 57), (13, 58), (13, 59), (13, 60)] u8) [146, 165, 166] [] u9), L, I, P, E, N), sgM g)) C hW (c_X12_counting l g (hv (hv J [146, 150, 151, 152, 154] [(13, 47), (13, 48), (13, 56), (13, 57), (13, 58), (13, 59), (13, 60)] u8) [146, 165, 166] [] u9) L I P E N H.size  hwm) mi_X12_counting tw_1495 (recv_ (T := (((hv (hv J [146, 150, 151, 152, 154] [(13, 47), (13, 48), (13, 56), (13, 57), (13, 58), (13, 59), (13, 60)] u8) [146, 165, 166] [] u9), L, I, P, E, N), sgM g)) C hW (mm_ rfl) rfl rfl) ⟨rfl, rfl, Nat.le_of_ble_eq_true rfl, Nat.le_of_ble_eq_true rfl⟩ rfl hl.1 rfl (Nat.le_of_ble_eq_true rfl) dX12_rights_54 ⟨Nat.le_of_ble_eq_true rfl, Nat.le_of_ble_eq_true rfl⟩) (fun u10 H locs hp10 hW => ?_)
        have hf10_0 : (0 ≤ (u10 13 68).toInt ∧ (u10 13 68).toInt ≤ 40) := hp10
        clear hp10
        have hW : WB g A s.heap H locs ((hv (hv (hv J [146, 150, 151, 152, 154] [(13, 47), (13, 48), (13, 56), (13, 57), (13, 58), (13, 59), (13, 60)] u8) [146, 165, 166] [] u9) [167] [(13, 68)] u10), L, I, P, E, N) (sgM g) := hW
        refine lv_aload_n hx hb dX12_rights_57 rfl (lv_at hl 2 rfl) ?_
        refine lv_iload_n hx hb dX12_rights_58 rfl (lv_at hl 4 rfl) ?_
        refine lv_iload hx hb dX12_rights_59 (lv_at hl 0 rfl) ?_
        refine ci_ C hW (runV (x := (g.2.2.1 13)) (As := [.int a1, .int r8]) (rest := []) (T := (((hv (hv (hv J [146, 150, 151, 152, 154] [(13, 47), (13, 48), (13, 56), (13, 57), (13, 58), (13, 59), (13, 60)] u8) [146, 165, 166] [] u9) [167] [(13, 68)] u10), L, I, P, E, N), sgM g)) C hW (c_X12_isEnough l g (hv (hv (hv J [146, 150, 151, 152, 154] [(13, 47), (13, 48), (13, 56), (13, 57), (13, 58), (13, 59), (13, 60)] u8) [146, 165, 166] [] u9) [167] [(13, 68)] u10) L I P E N H.size a1 r8 hwm (show 0 ≤ (u10 13 68).toInt ∧ (u10 13 68).toInt ≤ 40 from by omega)) mi_X12_isEnough tw_1499 (recv_ (T := (((hv (hv (hv J [146, 150, 151, 152, 154] [(13, 47), (13, 48), (13, 56), (13, 57), (13, 58), (13, 59), (13, 60)] u8) [146, 165, 166] [] u9) [167] [(13, 68)] u10), L, I, P, E, N), sgM g)) C hW (mm_ rfl) rfl rfl) ⟨rfl, rfl, Nat.le_of_ble_eq_true rfl, Nat.le_of_ble_eq_true rfl⟩ rfl hl.1 rfl (Nat.le_of_ble_eq_true rfl) dX12_rights_61 ⟨Nat.le_of_ble_eq_true rfl, Nat.le_of_ble_eq_true rfl⟩) (fun r11 u11 H locs hp11 hW => ?_)
        have hc11 : ((r11.toInt = 1) ∨ (r11.toInt = 0)) := hp11
        clear hp11
        have hW : WB g A s.heap H locs ((hv (hv (hv J [146, 150, 151, 152, 154] [(13, 47), (13, 48), (13, 56), (13, 57), (13, 58), (13, 59), (13, 60)] u8) [146, 165, 166] [] u9) [167] [(13, 68)] u10), L, I, P, E, N) (sgM g) := hW
        refine lv_if_ne (tgt := 70) hx hb dX12_rights_64 (by decide) (fun c12 => ?_) (fun c12 => ?_)
        · have c12 : ¬ r11.toInt = 0 := tne rfl kp0 c12
          refine lv_bipush (v := (-9)) hx hb dX12_rights_70 (by decide) ?_
          refine lv_istore (lv' := [(6, .int (-9)), (5, .int r8), (4, .int r1), (0, .ref (g.2.2.1 13)), (1, .int a0), (2, .int a1), (3, .int a2)]) hx hb dX12_rights_72 hl (by decide) rfl (fun ls hl => ?_)
          refine lv_iconst (v := 0) hx hb dX12_rights_74 (by decide) ?_
          refine lv_istore (lv' := [(7, .int 0), (6, .int (-9)), (5, .int r8), (4, .int r1), (0, .ref (g.2.2.1 13)), (1, .int a0), (2, .int a1), (3, .int a2)]) hx hb dX12_rights_75 hl (by decide) rfl (fun ls hl => ?_)
          refine lv_iconst (v := 0) hx hb dX12_rights_77 (by decide) ?_
          refine lv_istore (lv' := [(8, .int 0), (7, .int 0), (6, .int (-9)), (5, .int r8), (4, .int r1), (0, .ref (g.2.2.1 13)), (1, .int a0), (2, .int a1), (3, .int a2)]) hx hb dX12_rights_78 hl (by decide) rfl (fun ls hl => ?_)
          have loop80 : ∀ (n : Nat) (m6 : Int32) (m7 : Int32) (m8 : Int32) (H : Heap) (locs : List Loc) (ls : Array Slot), (2147483647 - m8.toInt).toNat < n → 0 ≤ m8.toInt → WB g A s.heap H locs ((hv (hv (hv J [146, 150, 151, 152, 154] [(13, 47), (13, 48), (13, 56), (13, 57), (13, 58), (13, 59), (13, 60)] u8) [146, 165, 166] [] u9) [167] [(13, 68)] u10), L, I, P, E, N) (sgM g) → lv_has ls 9 [(8, .int m8), (7, .int m7), (6, .int m6), (5, .int r8), (4, .int r1), (0, .ref (g.2.2.1 13)), (1, .int a0), (2, .int a1), (3, .int a2)] → W p l e (RM (35) 0 0) s m ([.ref (g.2.2.1 13), .int a0, .int a1, .int a2] : List Value).toArray below meth c H locs 0 0 (MQ below Q9 ([.ref (g.2.2.1 13), .int a0, .int a1, .int a2] : List Value).toArray s 0 0 A) (F0 m 80 ls []) := by
            intro n
            induction n with
            | zero => intro m6 m7 m8 H locs ls hmeas; exact absurd hmeas (Nat.not_lt_zero _)
            | succ n ih =>
              intro m6 m7 m8 H locs ls hmeas hi hW hl
              refine lv_iload hx hb dX12_rights_80 (lv_at hl 0 rfl) ?_
              refine lv_iconst (v := 1) hx hb dX12_rights_82 (by decide) ?_
              refine lv_iload_n hx hb dX12_rights_83 rfl (lv_at hl 7 rfl) ?_
              refine ci_ C hW (runS (As := [.int a1]) (rest := [.int 1, .int m8]) (T := (((hv (hv (hv J [146, 150, 151, 152, 154] [(13, 47), (13, 48), (13, 56), (13, 57), (13, 58), (13, 59), (13, 60)] u8) [146, 165, 166] [] u9) [167] [(13, 68)] u10), L, I, P, E, N), sgM g)) C hW (c_X12_bits l g (hv (hv (hv J [146, 150, 151, 152, 154] [(13, 47), (13, 48), (13, 56), (13, 57), (13, 58), (13, 59), (13, 60)] u8) [146, 165, 166] [] u9) [167] [(13, 68)] u10) L I P E N H.size a1 ) mi_X12_bits tw_1460 ⟨rfl, rfl, Nat.le_of_ble_eq_true rfl, Nat.le_of_ble_eq_true rfl⟩ rfl hl.1 rfl (Nat.le_of_ble_eq_true rfl) dX12_rights_84 ⟨Nat.le_of_ble_eq_true rfl, Nat.le_of_ble_eq_true rfl⟩) (fun r13 u13 H locs hp13 hW => ?_)
              have hW : WB g A s.heap H locs ((hv (hv (hv J [146, 150, 151, 152, 154] [(13, 47), (13, 48), (13, 56), (13, 57), (13, 58), (13, 59), (13, 60)] u8) [146, 165, 166] [] u9) [167] [(13, 68)] u10), L, I, P, E, N) (sgM g) := hW
              refine lv_ishl hx hb dX12_rights_87 ?_
              refine lv_topi (fun x14 (e14 : x14 = 1 <<< (r13 &&& 31)) => ?_)
              have t14 := i32r x14
              refine lv_icmp_ge (tgt := 142) hx hb dX12_rights_88 (by decide) (fun c15 => ?_) (fun c15 => ?_)
              · have c15 : x14.toInt ≤ m8.toInt := tle rfl rfl c15
                refine lv_iload hx hb dX12_rights_142 (lv_at hl 2 rfl) ?_
                have hWr : WB g A s.heap H locs (hv J [100, 146, 150, 151, 152, 154, 165, 166, 167] [(13, 47), (13, 48), (13, 56), (13, 57), (13, 58), (13, 59), (13, 60), (13, 68)] (hv (hv (hv J [146, 150, 151, 152, 154] [(13, 47), (13, 48), (13, 56), (13, 57), (13, 58), (13, 59), (13, 60)] u8) [146, 165, 166] [] u9) [167] [(13, 68)] u10), L, I, P, E, N) (sgM g) := by
                  rw [← ag_hvE (J := J) (R := [100, 146, 150, 151, 152, 154, 165, 166, 167]) (F := [(13, 47), (13, 48), (13, 56), (13, 57), (13, 58), (13, 59), (13, 60), (13, 68)]) (ag_hv rfl rfl (ag_hv rfl rfl (ag_hv rfl rfl ag_rf)))]
                  exact hW
                subst hQ9
                exact end_i C hr hlocks (hv (hv (hv J [146, 150, 151, 152, 154] [(13, 47), (13, 48), (13, 56), (13, 57), (13, 58), (13, 59), (13, 60)] u8) [146, 165, 166] [] u9) [167] [(13, 68)] u10) hWr (show CAC (hv J [100, 146, 150, 151, 152, 154, 165, 166, 167] [(13, 47), (13, 48), (13, 56), (13, 57), (13, 58), (13, 59), (13, 60), (13, 68)] (hv (hv (hv J [146, 150, 151, 152, 154] [(13, 47), (13, 48), (13, 56), (13, 57), (13, 58), (13, 59), (13, 60)] u8) [146, 165, 166] [] u9) [167] [(13, 68)] u10)) from by rw [← ag_hvE (J := J) (R := [100, 146, 150, 151, 152, 154, 165, 166, 167]) (F := [(13, 47), (13, 48), (13, 56), (13, 57), (13, 58), (13, 59), (13, 60), (13, 68)]) (ag_hv rfl rfl (ag_hv rfl rfl (ag_hv rfl rfl ag_rf)))]; exact cac_e (J := (hv J [146, 150, 151, 152, 154] [(13, 47), (13, 48), (13, 56), (13, 57), (13, 58), (13, 59), (13, 60)] u8)) ⟨rfl, rfl, rfl, rfl, rfl, rfl, rfl, rfl, rfl, rfl, rfl, rfl, rfl, rfl, rfl, rfl, rfl, rfl, rfl, rfl⟩ rfl rfl rfl hCC) dX12_rights_144
              · have c15 : m8.toInt < x14.toInt := tnle rfl rfl c15
                refine lv_iload hx hb dX12_rights_91 (lv_at hl 2 rfl) ?_
                refine lv_if_lt (tgt := 109) hx hb dX12_rights_93 (by decide) (fun c16 => ?_) (fun c16 => ?_)
                · have c16 : m6.toInt < 0 := tlt rfl kp0 c16
                  refine lv_aload_n hx hb dX12_rights_109 rfl (lv_at hl 5 rfl) ?_
                  refine lv_iload hx hb dX12_rights_110 (lv_at hl 1 rfl) ?_
                  refine lv_iload hx hb dX12_rights_112 (lv_at hl 3 rfl) ?_
                  refine ci_ C hW (runV (x := (g.2.2.1 13)) (As := [.int m7, .int r8]) (rest := []) (T := (((hv (hv (hv J [146, 150, 151, 152, 154] [(13, 47), (13, 48), (13, 56), (13, 57), (13, 58), (13, 59), (13, 60)] u8) [146, 165, 166] [] u9) [167] [(13, 68)] u10), L, I, P, E, N), sgM g)) C hW (c_X12_isEnough l g (hv (hv (hv J [146, 150, 151, 152, 154] [(13, 47), (13, 48), (13, 56), (13, 57), (13, 58), (13, 59), (13, 60)] u8) [146, 165, 166] [] u9) [167] [(13, 68)] u10) L I P E N H.size m7 r8 hwm (show 0 ≤ (u10 13 68).toInt ∧ (u10 13 68).toInt ≤ 40 from by omega)) mi_X12_isEnough tw_1499 (recv_ (T := (((hv (hv (hv J [146, 150, 151, 152, 154] [(13, 47), (13, 48), (13, 56), (13, 57), (13, 58), (13, 59), (13, 60)] u8) [146, 165, 166] [] u9) [167] [(13, 68)] u10), L, I, P, E, N), sgM g)) C hW (mm_ rfl) rfl rfl) ⟨rfl, rfl, Nat.le_of_ble_eq_true rfl, Nat.le_of_ble_eq_true rfl⟩ rfl hl.1 rfl (Nat.le_of_ble_eq_true rfl) dX12_rights_114 ⟨Nat.le_of_ble_eq_true rfl, Nat.le_of_ble_eq_true rfl⟩) (fun r17 u17 H locs hp17 hW => ?_)
                  have hc17 : ((r17.toInt = 1) ∨ (r17.toInt = 0)) := hp17
                  clear hp17
                  have hW : WB g A s.heap H locs ((hv (hv (hv J [146, 150, 151, 152, 154] [(13, 47), (13, 48), (13, 56), (13, 57), (13, 58), (13, 59), (13, 60)] u8) [146, 165, 166] [] u9) [167] [(13, 68)] u10), L, I, P, E, N) (sgM g) := hW
                  refine lv_if_eq (tgt := 124) hx hb dX12_rights_117 (by decide) (fun c18 => ?_) (fun c18 => ?_)
                  · have c18 : r17.toInt = 0 := teq rfl kp0 c18
                    refine lv_iload hx hb dX12_rights_124 (lv_at hl 1 rfl) ?_
                    refine lv_iload_n hx hb dX12_rights_126 rfl (lv_at hl 7 rfl) ?_
                    refine lv_iconst (v := (-1)) hx hb dX12_rights_127 (by decide) ?_
                    refine lv_ixor hx hb dX12_rights_128 ?_
                    refine lv_topi (fun x19 (e19 : x19 = a1 ^^^ (-1)) => ?_)
                    refine lv_ior hx hb dX12_rights_129 ?_
                    refine lv_topi (fun x20 (e20 : x20 = m7 ||| x19) => ?_)
                    refine lv_iconst (v := 1) hx hb dX12_rights_130 (by decide) ?_
                    refine lv_iadd hx hb dX12_rights_131 ?_
                    refine lv_topi (fun x21 (e21 : x21 = x20 + 1) => ?_)
                    refine lv_iload_n hx hb dX12_rights_132 rfl (lv_at hl 7 rfl) ?_
                    refine lv_iand hx hb dX12_rights_133 ?_
                    refine lv_topi (fun x22 (e22 : x22 = x21 &&& a1) => ?_)
                    refine lv_istore (lv' := [(7, .int x22), (8, .int m8), (6, .int m6), (5, .int r8), (4, .int r1), (0, .ref (g.2.2.1 13)), (1, .int a0), (2, .int a1), (3, .int a2)]) hx hb dX12_rights_134 hl (by decide) rfl (fun ls hl => ?_)
                    obtain ⟨x23, e23⟩ : ∃ y : Int32, y = m8 + 1 := ⟨_, rfl⟩
                    refine lv_iinc (v := x23) (lv' := [(8, .int x23), (7, .int x22), (6, .int m6), (5, .int r8), (4, .int r1), (0, .ref (g.2.2.1 13)), (1, .int a0), (2, .int a1), (3, .int a2)]) hx hb dX12_rights_136 hl (k := 1) rfl (by rw [e23]; rfl) (by decide) rfl (fun ls hl => ?_)
                    try have t23 : x23.toInt = m8.toInt + 1 := tadd e23 rfl kp1 (by omega)
                    refine lv_goto (tgt := 80) hx hb dX12_rights_139 (by decide) ?_
                    refine ih m6 x22 x23 H locs ls ?_ ?_ hW (lv_sub hl [0, 1, 2, 3, 4, 5, 6, 7, 8] rfl)
                    · show (2147483647 - x23.toInt).toNat < n
                      omega
                    · show 0 ≤ x23.toInt
                      first | omega | exact hi | assumption
                  · have c18 : ¬ r17.toInt = 0 := tne rfl kp0 c18
                    refine lv_iload hx hb dX12_rights_120 (lv_at hl 1 rfl) ?_
                    refine lv_istore (lv' := [(6, .int m7), (8, .int m8), (7, .int m7), (5, .int r8), (4, .int r1), (0, .ref (g.2.2.1 13)), (1, .int a0), (2, .int a1), (3, .int a2)]) hx hb dX12_rights_122 hl (by decide) rfl (fun ls hl => ?_)
                    refine lv_iload hx hb dX12_rights_124 (lv_at hl 2 rfl) ?_
                    refine lv_iload_n hx hb dX12_rights_126 rfl (lv_at hl 7 rfl) ?_
                    refine lv_iconst (v := (-1)) hx hb dX12_rights_127 (by decide) ?_
                    refine lv_ixor hx hb dX12_rights_128 ?_
                    refine lv_topi (fun x24 (e24 : x24 = a1 ^^^ (-1)) => ?_)
                    refine lv_ior hx hb dX12_rights_129 ?_
                    refine lv_topi (fun x25 (e25 : x25 = m7 ||| x24) => ?_)
                    refine lv_iconst (v := 1) hx hb dX12_rights_130 (by decide) ?_
                    refine lv_iadd hx hb dX12_rights_131 ?_
                    refine lv_topi (fun x26 (e26 : x26 = x25 + 1) => ?_)
                    refine lv_iload_n hx hb dX12_rights_132 rfl (lv_at hl 7 rfl) ?_
                    refine lv_iand hx hb dX12_rights_133 ?_
                    refine lv_topi (fun x27 (e27 : x27 = x26 &&& a1) => ?_)
                    refine lv_istore (lv' := [(7, .int x27), (6, .int m7), (8, .int m8), (5, .int r8), (4, .int r1), (0, .ref (g.2.2.1 13)), (1, .int a0), (2, .int a1), (3, .int a2)]) hx hb dX12_rights_134 hl (by decide) rfl (fun ls hl => ?_)
                    obtain ⟨x28, e28⟩ : ∃ y : Int32, y = m8 + 1 := ⟨_, rfl⟩
                    refine lv_iinc (v := x28) (lv' := [(8, .int x28), (7, .int x27), (6, .int m7), (5, .int r8), (4, .int r1), (0, .ref (g.2.2.1 13)), (1, .int a0), (2, .int a1), (3, .int a2)]) hx hb dX12_rights_136 hl (k := 2) rfl (by rw [e28]; rfl) (by decide) rfl (fun ls hl => ?_)
                    try have t28 : x28.toInt = m8.toInt + 1 := tadd e28 rfl kp1 (by omega)
                    refine lv_goto (tgt := 80) hx hb dX12_rights_139 (by decide) ?_
                    refine ih m7 x27 x28 H locs ls ?_ ?_ hW (lv_sub hl [0, 1, 2, 3, 4, 5, 6, 7, 8] rfl)
                    · show (2147483647 - x28.toInt).toNat < n
                      omega
                    · show 0 ≤ x28.toInt
                      first | omega | exact hi | assumption
                · have c16 : 0 ≤ m6.toInt := tnlt rfl kp0 c16
                  refine lv_iload hx hb dX12_rights_96 (lv_at hl 1 rfl) ?_
                  refine ci_ C hW (runS (As := [.int m7]) (rest := []) (T := (((hv (hv (hv J [146, 150, 151, 152, 154] [(13, 47), (13, 48), (13, 56), (13, 57), (13, 58), (13, 59), (13, 60)] u8) [146, 165, 166] [] u9) [167] [(13, 68)] u10), L, I, P, E, N), sgM g)) C hW (c_X12_bits l g (hv (hv (hv J [146, 150, 151, 152, 154] [(13, 47), (13, 48), (13, 56), (13, 57), (13, 58), (13, 59), (13, 60)] u8) [146, 165, 166] [] u9) [167] [(13, 68)] u10) L I P E N H.size m7 ) mi_X12_bits tw_1460 ⟨rfl, rfl, Nat.le_of_ble_eq_true rfl, Nat.le_of_ble_eq_true rfl⟩ rfl hl.1 rfl (Nat.le_of_ble_eq_true rfl) dX12_rights_98 ⟨Nat.le_of_ble_eq_true rfl, Nat.le_of_ble_eq_true rfl⟩) (fun r29 u29 H locs hp29 hW => ?_)
                  have hW : WB g A s.heap H locs ((hv (hv (hv J [146, 150, 151, 152, 154] [(13, 47), (13, 48), (13, 56), (13, 57), (13, 58), (13, 59), (13, 60)] u8) [146, 165, 166] [] u9) [167] [(13, 68)] u10), L, I, P, E, N) (sgM g) := hW
                  refine lv_iload hx hb dX12_rights_101 (lv_at hl 2 rfl) ?_
                  refine ci_ C hW (runS (As := [.int m6]) (rest := [.int r29]) (T := (((hv (hv (hv J [146, 150, 151, 152, 154] [(13, 47), (13, 48), (13, 56), (13, 57), (13, 58), (13, 59), (13, 60)] u8) [146, 165, 166] [] u9) [167] [(13, 68)] u10), L, I, P, E, N), sgM g)) C hW (c_X12_bits l g (hv (hv (hv J [146, 150, 151, 152, 154] [(13, 47), (13, 48), (13, 56), (13, 57), (13, 58), (13, 59), (13, 60)] u8) [146, 165, 166] [] u9) [167] [(13, 68)] u10) L I P E N H.size m6 ) mi_X12_bits tw_1460 ⟨rfl, rfl, Nat.le_of_ble_eq_true rfl, Nat.le_of_ble_eq_true rfl⟩ rfl hl.1 rfl (Nat.le_of_ble_eq_true rfl) dX12_rights_103 ⟨Nat.le_of_ble_eq_true rfl, Nat.le_of_ble_eq_true rfl⟩) (fun r30 u30 H locs hp30 hW => ?_)
                  have hW : WB g A s.heap H locs ((hv (hv (hv J [146, 150, 151, 152, 154] [(13, 47), (13, 48), (13, 56), (13, 57), (13, 58), (13, 59), (13, 60)] u8) [146, 165, 166] [] u9) [167] [(13, 68)] u10), L, I, P, E, N) (sgM g) := hW
                  refine lv_icmp_ge (tgt := 124) hx hb dX12_rights_106 (by decide) (fun c31 => ?_) (fun c31 => ?_)
                  · have c31 : r30.toInt ≤ r29.toInt := tle rfl rfl c31
                    refine lv_iload hx hb dX12_rights_124 (lv_at hl 1 rfl) ?_
                    refine lv_iload_n hx hb dX12_rights_126 rfl (lv_at hl 7 rfl) ?_
                    refine lv_iconst (v := (-1)) hx hb dX12_rights_127 (by decide) ?_
                    refine lv_ixor hx hb dX12_rights_128 ?_
                    refine lv_topi (fun x32 (e32 : x32 = a1 ^^^ (-1)) => ?_)
                    refine lv_ior hx hb dX12_rights_129 ?_
                    refine lv_topi (fun x33 (e33 : x33 = m7 ||| x32) => ?_)
                    refine lv_iconst (v := 1) hx hb dX12_rights_130 (by decide) ?_
                    refine lv_iadd hx hb dX12_rights_131 ?_
                    refine lv_topi (fun x34 (e34 : x34 = x33 + 1) => ?_)
                    refine lv_iload_n hx hb dX12_rights_132 rfl (lv_at hl 7 rfl) ?_
                    refine lv_iand hx hb dX12_rights_133 ?_
                    refine lv_topi (fun x35 (e35 : x35 = x34 &&& a1) => ?_)
                    refine lv_istore (lv' := [(7, .int x35), (8, .int m8), (6, .int m6), (5, .int r8), (4, .int r1), (0, .ref (g.2.2.1 13)), (1, .int a0), (2, .int a1), (3, .int a2)]) hx hb dX12_rights_134 hl (by decide) rfl (fun ls hl => ?_)
                    obtain ⟨x36, e36⟩ : ∃ y : Int32, y = m8 + 1 := ⟨_, rfl⟩
                    refine lv_iinc (v := x36) (lv' := [(8, .int x36), (7, .int x35), (6, .int m6), (5, .int r8), (4, .int r1), (0, .ref (g.2.2.1 13)), (1, .int a0), (2, .int a1), (3, .int a2)]) hx hb dX12_rights_136 hl (k := 1) rfl (by rw [e36]; rfl) (by decide) rfl (fun ls hl => ?_)
                    try have t36 : x36.toInt = m8.toInt + 1 := tadd e36 rfl kp1 (by omega)
                    refine lv_goto (tgt := 80) hx hb dX12_rights_139 (by decide) ?_
                    refine ih m6 x35 x36 H locs ls ?_ ?_ hW (lv_sub hl [0, 1, 2, 3, 4, 5, 6, 7, 8] rfl)
                    · show (2147483647 - x36.toInt).toNat < n
                      omega
                    · show 0 ≤ x36.toInt
                      first | omega | exact hi | assumption
                  · have c31 : r29.toInt < r30.toInt := tnle rfl rfl c31
                    refine lv_aload_n hx hb dX12_rights_109 rfl (lv_at hl 5 rfl) ?_
                    refine lv_iload hx hb dX12_rights_110 (lv_at hl 1 rfl) ?_
                    refine lv_iload hx hb dX12_rights_112 (lv_at hl 3 rfl) ?_
                    refine ci_ C hW (runV (x := (g.2.2.1 13)) (As := [.int m7, .int r8]) (rest := []) (T := (((hv (hv (hv J [146, 150, 151, 152, 154] [(13, 47), (13, 48), (13, 56), (13, 57), (13, 58), (13, 59), (13, 60)] u8) [146, 165, 166] [] u9) [167] [(13, 68)] u10), L, I, P, E, N), sgM g)) C hW (c_X12_isEnough l g (hv (hv (hv J [146, 150, 151, 152, 154] [(13, 47), (13, 48), (13, 56), (13, 57), (13, 58), (13, 59), (13, 60)] u8) [146, 165, 166] [] u9) [167] [(13, 68)] u10) L I P E N H.size m7 r8 hwm (show 0 ≤ (u10 13 68).toInt ∧ (u10 13 68).toInt ≤ 40 from by omega)) mi_X12_isEnough tw_1499 (recv_ (T := (((hv (hv (hv J [146, 150, 151, 152, 154] [(13, 47), (13, 48), (13, 56), (13, 57), (13, 58), (13, 59), (13, 60)] u8) [146, 165, 166] [] u9) [167] [(13, 68)] u10), L, I, P, E, N), sgM g)) C hW (mm_ rfl) rfl rfl) ⟨rfl, rfl, Nat.le_of_ble_eq_true rfl, Nat.le_of_ble_eq_true rfl⟩ rfl hl.1 rfl (Nat.le_of_ble_eq_true rfl) dX12_rights_114 ⟨Nat.le_of_ble_eq_true rfl, Nat.le_of_ble_eq_true rfl⟩) (fun r37 u37 H locs hp37 hW => ?_)
                    have hc37 : ((r37.toInt = 1) ∨ (r37.toInt = 0)) := hp37
                    clear hp37
                    have hW : WB g A s.heap H locs ((hv (hv (hv J [146, 150, 151, 152, 154] [(13, 47), (13, 48), (13, 56), (13, 57), (13, 58), (13, 59), (13, 60)] u8) [146, 165, 166] [] u9) [167] [(13, 68)] u10), L, I, P, E, N) (sgM g) := hW
                    refine lv_if_eq (tgt := 124) hx hb dX12_rights_117 (by decide) (fun c38 => ?_) (fun c38 => ?_)
                    · have c38 : r37.toInt = 0 := teq rfl kp0 c38
                      refine lv_iload hx hb dX12_rights_124 (lv_at hl 1 rfl) ?_
                      refine lv_iload_n hx hb dX12_rights_126 rfl (lv_at hl 7 rfl) ?_
                      refine lv_iconst (v := (-1)) hx hb dX12_rights_127 (by decide) ?_
                      refine lv_ixor hx hb dX12_rights_128 ?_
                      refine lv_topi (fun x39 (e39 : x39 = a1 ^^^ (-1)) => ?_)
                      refine lv_ior hx hb dX12_rights_129 ?_
                      refine lv_topi (fun x40 (e40 : x40 = m7 ||| x39) => ?_)
                      refine lv_iconst (v := 1) hx hb dX12_rights_130 (by decide) ?_
                      refine lv_iadd hx hb dX12_rights_131 ?_
                      refine lv_topi (fun x41 (e41 : x41 = x40 + 1) => ?_)
                      refine lv_iload_n hx hb dX12_rights_132 rfl (lv_at hl 7 rfl) ?_
                      refine lv_iand hx hb dX12_rights_133 ?_
                      refine lv_topi (fun x42 (e42 : x42 = x41 &&& a1) => ?_)
                      refine lv_istore (lv' := [(7, .int x42), (8, .int m8), (6, .int m6), (5, .int r8), (4, .int r1), (0, .ref (g.2.2.1 13)), (1, .int a0), (2, .int a1), (3, .int a2)]) hx hb dX12_rights_134 hl (by decide) rfl (fun ls hl => ?_)
                      obtain ⟨x43, e43⟩ : ∃ y : Int32, y = m8 + 1 := ⟨_, rfl⟩
                      refine lv_iinc (v := x43) (lv' := [(8, .int x43), (7, .int x42), (6, .int m6), (5, .int r8), (4, .int r1), (0, .ref (g.2.2.1 13)), (1, .int a0), (2, .int a1), (3, .int a2)]) hx hb dX12_rights_136 hl (k := 1) rfl (by rw [e43]; rfl) (by decide) rfl (fun ls hl => ?_)
                      try have t43 : x43.toInt = m8.toInt + 1 := tadd e43 rfl kp1 (by omega)
                      refine lv_goto (tgt := 80) hx hb dX12_rights_139 (by decide) ?_
                      refine ih m6 x42 x43 H locs ls ?_ ?_ hW (lv_sub hl [0, 1, 2, 3, 4, 5, 6, 7, 8] rfl)
                      · show (2147483647 - x43.toInt).toNat < n
                        omega
                      · show 0 ≤ x43.toInt
                        first | omega | exact hi | assumption
                    · have c38 : ¬ r37.toInt = 0 := tne rfl kp0 c38
                      refine lv_iload hx hb dX12_rights_120 (lv_at hl 1 rfl) ?_
                      refine lv_istore (lv' := [(6, .int m7), (8, .int m8), (7, .int m7), (5, .int r8), (4, .int r1), (0, .ref (g.2.2.1 13)), (1, .int a0), (2, .int a1), (3, .int a2)]) hx hb dX12_rights_122 hl (by decide) rfl (fun ls hl => ?_)
                      refine lv_iload hx hb dX12_rights_124 (lv_at hl 2 rfl) ?_
                      refine lv_iload_n hx hb dX12_rights_126 rfl (lv_at hl 7 rfl) ?_
                      refine lv_iconst (v := (-1)) hx hb dX12_rights_127 (by decide) ?_
                      refine lv_ixor hx hb dX12_rights_128 ?_
                      refine lv_topi (fun x44 (e44 : x44 = a1 ^^^ (-1)) => ?_)
                      refine lv_ior hx hb dX12_rights_129 ?_
                      refine lv_topi (fun x45 (e45 : x45 = m7 ||| x44) => ?_)
                      refine lv_iconst (v := 1) hx hb dX12_rights_130 (by decide) ?_
                      refine lv_iadd hx hb dX12_rights_131 ?_
                      refine lv_topi (fun x46 (e46 : x46 = x45 + 1) => ?_)
                      refine lv_iload_n hx hb dX12_rights_132 rfl (lv_at hl 7 rfl) ?_
                      refine lv_iand hx hb dX12_rights_133 ?_
                      refine lv_topi (fun x47 (e47 : x47 = x46 &&& a1) => ?_)
                      refine lv_istore (lv' := [(7, .int x47), (6, .int m7), (8, .int m8), (5, .int r8), (4, .int r1), (0, .ref (g.2.2.1 13)), (1, .int a0), (2, .int a1), (3, .int a2)]) hx hb dX12_rights_134 hl (by decide) rfl (fun ls hl => ?_)
                      obtain ⟨x48, e48⟩ : ∃ y : Int32, y = m8 + 1 := ⟨_, rfl⟩
                      refine lv_iinc (v := x48) (lv' := [(8, .int x48), (7, .int x47), (6, .int m7), (5, .int r8), (4, .int r1), (0, .ref (g.2.2.1 13)), (1, .int a0), (2, .int a1), (3, .int a2)]) hx hb dX12_rights_136 hl (k := 2) rfl (by rw [e48]; rfl) (by decide) rfl (fun ls hl => ?_)
                      try have t48 : x48.toInt = m8.toInt + 1 := tadd e48 rfl kp1 (by omega)
                      refine lv_goto (tgt := 80) hx hb dX12_rights_139 (by decide) ?_
                      refine ih m7 x47 x48 H locs ls ?_ ?_ hW (lv_sub hl [0, 1, 2, 3, 4, 5, 6, 7, 8] rfl)
                      · show (2147483647 - x48.toInt).toNat < n
                        omega
                      · show 0 ≤ x48.toInt
                        first | omega | exact hi | assumption
          -- into the loop
          refine loop80 ((2147483647 - (0 : Int32).toInt).toNat + 1) (-9) 0 0 H locs ls ?_ ?_ hW (lv_sub hl [0, 1, 2, 3, 4, 5, 6, 7, 8] rfl)
          · exact Nat.lt_succ_self _
          · show 0 ≤ (0 : Int32).toInt
            try rw [kn9]
            try rw [kp0]
            try rw [kp0]
            first | omega | exact hi | assumption
        · have c12 : r11.toInt = 0 := teq rfl kp0 c12
          refine lv_bipush (v := (-9)) hx hb dX12_rights_67 (by decide) ?_
          have hWr : WB g A s.heap H locs (hv J [100, 146, 150, 151, 152, 154, 165, 166, 167] [(13, 47), (13, 48), (13, 56), (13, 57), (13, 58), (13, 59), (13, 60), (13, 68)] (hv (hv (hv J [146, 150, 151, 152, 154] [(13, 47), (13, 48), (13, 56), (13, 57), (13, 58), (13, 59), (13, 60)] u8) [146, 165, 166] [] u9) [167] [(13, 68)] u10), L, I, P, E, N) (sgM g) := by
            rw [← ag_hvE (J := J) (R := [100, 146, 150, 151, 152, 154, 165, 166, 167]) (F := [(13, 47), (13, 48), (13, 56), (13, 57), (13, 58), (13, 59), (13, 60), (13, 68)]) (ag_hv rfl rfl (ag_hv rfl rfl (ag_hv rfl rfl ag_rf)))]
            exact hW
          subst hQ9
          exact end_i C hr hlocks (hv (hv (hv J [146, 150, 151, 152, 154] [(13, 47), (13, 48), (13, 56), (13, 57), (13, 58), (13, 59), (13, 60)] u8) [146, 165, 166] [] u9) [167] [(13, 68)] u10) hWr (show CAC (hv J [100, 146, 150, 151, 152, 154, 165, 166, 167] [(13, 47), (13, 48), (13, 56), (13, 57), (13, 58), (13, 59), (13, 60), (13, 68)] (hv (hv (hv J [146, 150, 151, 152, 154] [(13, 47), (13, 48), (13, 56), (13, 57), (13, 58), (13, 59), (13, 60)] u8) [146, 165, 166] [] u9) [167] [(13, 68)] u10)) from by rw [← ag_hvE (J := J) (R := [100, 146, 150, 151, 152, 154, 165, 166, 167]) (F := [(13, 47), (13, 48), (13, 56), (13, 57), (13, 58), (13, 59), (13, 60), (13, 68)]) (ag_hv rfl rfl (ag_hv rfl rfl (ag_hv rfl rfl ag_rf)))]; exact cac_e (J := (hv J [146, 150, 151, 152, 154] [(13, 47), (13, 48), (13, 56), (13, 57), (13, 58), (13, 59), (13, 60)] u8)) ⟨rfl, rfl, rfl, rfl, rfl, rfl, rfl, rfl, rfl, rfl, rfl, rfl, rfl, rfl, rfl, rfl, rfl, rfl, rfl, rfl⟩ rfl rfl rfl hCC) dX12_rights_69
      · have c7 : ¬ r1.toInt = 0 := tne rfl kp0 c7
        exfalso; omega
    · have c6 : 12 < r5.toInt := tnle rfl kp12 c6
      refine lv_bipush (v := (-6)) hx hb dX12_rights_23 (by decide) ?_
      refine lv_istore (lv' := [(4, .int (-6)), (0, .ref (g.2.2.1 13)), (1, .int a0), (2, .int a1), (3, .int a2)]) hx hb dX12_rights_25 hl (by decide) rfl (fun ls hl => ?_)
      refine lv_iload hx hb dX12_rights_27 (lv_at hl 0 rfl) ?_
      refine lv_if_eq (tgt := 39) hx hb dX12_rights_29 (by decide) (fun c49 => ?_) (fun c49 => ?_)
      · exact absurd c49 (by decide)
      · skip
        refine lv_aload_n hx hb dX12_rights_32 rfl (lv_at hl 1 rfl) ?_
        refine lv_iload hx hb dX12_rights_33 (lv_at hl 0 rfl) ?_
        refine ci_ C hW (runV (x := (g.2.2.1 13)) (As := [.int (-6)]) (rest := []) (T := ((J, L, I, P, E, N), sgM g)) C hW (c_X12_refuse l g J L I P E N H.size (-6) (show -6 ≤ (-6 : Int32).toInt ∧ (-6 : Int32).toInt ≤ -1 from by (try simp only [kn6]); omega)) mi_X12_refuse tw_1239 (recv_ (T := ((J, L, I, P, E, N), sgM g)) C hW (mm_ rfl) rfl rfl) ⟨rfl, rfl, Nat.le_of_ble_eq_true rfl, Nat.le_of_ble_eq_true rfl⟩ rfl hl.1 rfl (Nat.le_of_ble_eq_true rfl) dX12_rights_35 ⟨Nat.le_of_ble_eq_true rfl, Nat.le_of_ble_eq_true rfl⟩) (fun r50 u50 H locs hp50 hW => ?_)
        have hc50 : ((r50 = (-6))) := hp50
        clear hp50
        have hr50 : r50.toInt = (-6) := by rw [hc50]; exact kn6
        have hW : WB g A s.heap H locs ((hv J [100] [] u50), L, I, P, E, N) (sgM g) := hW
        have hWr : WB g A s.heap H locs (hv J [100, 146, 150, 151, 152, 154, 165, 166, 167] [(13, 47), (13, 48), (13, 56), (13, 57), (13, 58), (13, 59), (13, 60), (13, 68)] (hv J [100] [] u50), L, I, P, E, N) (sgM g) := by
          rw [← ag_hvE (J := J) (R := [100, 146, 150, 151, 152, 154, 165, 166, 167]) (F := [(13, 47), (13, 48), (13, 56), (13, 57), (13, 58), (13, 59), (13, 60), (13, 68)]) (ag_hv rfl rfl ag_rf)]
          exact hW
        subst hQ9
        exact end_i C hr hlocks (hv J [100] [] u50) hWr (show CAC (hv J [100, 146, 150, 151, 152, 154, 165, 166, 167] [(13, 47), (13, 48), (13, 56), (13, 57), (13, 58), (13, 59), (13, 60), (13, 68)] (hv J [100] [] u50)) from by rw [← ag_hvE (J := J) (R := [100, 146, 150, 151, 152, 154, 165, 166, 167]) (F := [(13, 47), (13, 48), (13, 56), (13, 57), (13, 58), (13, 59), (13, 60), (13, 68)]) (ag_hv rfl rfl ag_rf)]; exact cac_e (J := J) ⟨rfl, rfl, rfl, rfl, rfl, rfl, rfl, rfl, rfl, rfl, rfl, rfl, rfl, rfl, rfl, rfl, rfl, rfl, rfl, rfl⟩ rfl rfl rfl hcac) dX12_rights_38
