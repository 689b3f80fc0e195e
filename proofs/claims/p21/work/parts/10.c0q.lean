set_option maxHeartbeats 4000000 in
set_option maxRecDepth 100000 in
theorem c_X12_cut_e (l : Launch) (g : gG) (J : Nat → Nat → Int32) (L : Nat → Nat → Int64) (I : Nat → Nat → Nat → Int32) (P : Nat → Nat → Nat → Option Nat) (E : Nat → Option Nat) (N : Nat → Nat) (sz : Nat) (a0 : Int32) (a1 : Int32) (a2 : Int32) (hwm : WM J) : Met l yX12_cut (WS yX12_cut cX12_cut 4 (some .int)) (RM (3) 0 0) (PC g [.ref (g.2.2.1 13), .int a0, .int a1, .int a2] ((J, L, I, P, E, N), sgM g) sz) (va_Qi (fun (r : Int32) (u : (Nat → Nat → Int32)) => WM (hv J [100, 105, 106, 107] [(13, 34)] u) ∧ ((r.toInt = (-1) ∧ (¬ (1 ≤ a0.toInt ∧ a0.toInt < (J 13 32).toInt)) ∧ u 13 34 = J 13 34 ∧ u 105 = J 105 ∧ u 106 = J 106 ∧ u 107 = J 107) ∨ (r.toInt = (-4) ∧ (1 ≤ a0.toInt ∧ a0.toInt < (J 13 32).toInt ∧ (a1.toInt < (J 13 31).toInt ∨ a2.toInt < a1.toInt)) ∧ u 13 34 = J 13 34 ∧ u 105 = J 105 ∧ u 106 = J 106 ∧ u 107 = J 107) ∨ (r.toInt = (-6) ∧ (1 ≤ a0.toInt ∧ a0.toInt < (J 13 32).toInt ∧ (J 13 31).toInt ≤ a1.toInt ∧ a1.toInt ≤ a2.toInt ∧ (9999 < a2.toInt ∨ (J 13 34).toInt = 40)) ∧ u 13 34 = J 13 34 ∧ u 105 = J 105 ∧ u 106 = J 106 ∧ u 107 = J 107) ∨ (r.toInt = (J 13 34).toInt + 1 ∧ (1 ≤ a0.toInt ∧ a0.toInt < (J 13 32).toInt ∧ (J 13 31).toInt ≤ a1.toInt ∧ a1.toInt ≤ a2.toInt ∧ a2.toInt ≤ 9999 ∧ (J 13 34).toInt ≤ 39) ∧ (u 13 34).toInt = (J 13 34).toInt + 1 ∧ u 105 = up2 J 105 (J 13 34).toNatClampNeg a0 105 ∧ u 106 = up2 J 106 (J 13 34).toNatClampNeg a1 106 ∧ u 107 = up2 J 107 (J 13 34).toNatClampNeg a2 107))) (fun u t => at_ g (FR g ((J, L, I, P, E, N), sgM g) sz) ((hv J [100, 105, 106, 107] [(13, 34)] u, L, I, P, E, N), sgM g) t) (FR g ((J, L, I, P, E, N), sgM g) sz)) 0 0 (FR g ((J, L, I, P, E, N), sgM g) sz) := by
  refine ent (by decide +kernel) (Nat.le_of_ble_eq_true rfl) ?_
  intro p e s m below meth c ls hsz C hW hr hlocks hname hl
  generalize FR g ((J, L, I, P, E, N), sgM g) sz = A at C hW ⊢
  generalize hQ9 : (va_Qi (fun (r : Int32) (u : (Nat → Nat → Int32)) => WM (hv J [100, 105, 106, 107] [(13, 34)] u) ∧ ((r.toInt = (-1) ∧ (¬ (1 ≤ a0.toInt ∧ a0.toInt < (J 13 32).toInt)) ∧ u 13 34 = J 13 34 ∧ u 105 = J 105 ∧ u 106 = J 106 ∧ u 107 = J 107) ∨ (r.toInt = (-4) ∧ (1 ≤ a0.toInt ∧ a0.toInt < (J 13 32).toInt ∧ (a1.toInt < (J 13 31).toInt ∨ a2.toInt < a1.toInt)) ∧ u 13 34 = J 13 34 ∧ u 105 = J 105 ∧ u 106 = J 106 ∧ u 107 = J 107) ∨ (r.toInt = (-6) ∧ (1 ≤ a0.toInt ∧ a0.toInt < (J 13 32).toInt ∧ (J 13 31).toInt ≤ a1.toInt ∧ a1.toInt ≤ a2.toInt ∧ (9999 < a2.toInt ∨ (J 13 34).toInt = 40)) ∧ u 13 34 = J 13 34 ∧ u 105 = J 105 ∧ u 106 = J 106 ∧ u 107 = J 107) ∨ (r.toInt = (J 13 34).toInt + 1 ∧ (1 ≤ a0.toInt ∧ a0.toInt < (J 13 32).toInt ∧ (J 13 31).toInt ≤ a1.toInt ∧ a1.toInt ≤ a2.toInt ∧ a2.toInt ≤ 9999 ∧ (J 13 34).toInt ≤ 39) ∧ (u 13 34).toInt = (J 13 34).toInt + 1 ∧ u 105 = up2 J 105 (J 13 34).toNatClampNeg a0 105 ∧ u 106 = up2 J 106 (J 13 34).toNatClampNeg a1 106 ∧ u 107 = up2 J 107 (J 13 34).toNatClampNeg a2 107))) (fun u t => at_ g A ((hv J [100, 105, 106, 107] [(13, 34)] u, L, I, P, E, N), sgM g) t) A) = Q9
  have hx := C.1.1
  have hb := C.1.2.1
  have hts := C.1.2.2.2.2
  have hW : WB g A s.heap s.heap [] (J, L, I, P, E, N) (sgM g) := hW
  have hl : lv_has ls 4 [(0, .ref (g.2.2.1 13)), (1, .int a0), (2, .int a1), (3, .int a2)] := hl
  obtain ⟨H, hH⟩ : ∃ H : Heap, H = s.heap := ⟨_, rfl⟩
  obtain ⟨locs, hlocs⟩ : ∃ q : List Loc, q = [] := ⟨_, rfl⟩
  have hW : WB g A s.heap H locs (J, L, I, P, E, N) (sgM g) := by rw [hH, hlocs]; exact hW
  obtain ⟨⟨hnd1, hnd2, hon, hhm1, hhm2, hhN, hcu1, hcu2, hco1, hco2, hcN⟩, ⟨hrd1, hrd2⟩, ⟨hnw1, hnw2, hns1, hns2, hof⟩, ⟨htm1, htm2, hts_⟩, ⟨had1, had2, hrw1, hrw2, htp1, htp2⟩⟩ := id hwm
  refine start_ hH hlocs ?_
  refine lv_aload_n hx hb dX12_cut_0 rfl (lv_at hl 0 rfl) ?_
  refine lv_iload_n hx hb dX12_cut_1 rfl (lv_at hl 1 rfl) ?_
  refine ci_ C hW (runV (x := (g.2.2.1 13)) (As := [.int a0]) (rest := []) (T := ((J, L, I, P, E, N), sgM g)) C hW (c_X12_isNode l g J L I P E N H.size a0 hwm) mi_X12_isNode tw_1251 (recv_ (T := ((J, L, I, P, E, N), sgM g)) C hW (mm_ rfl) rfl rfl) ⟨rfl, rfl, Nat.le_of_ble_eq_true rfl, Nat.le_of_ble_eq_true rfl⟩ rfl hl.1 rfl (Nat.le_of_ble_eq_true rfl) dX12_cut_2 ⟨Nat.le_of_ble_eq_true rfl, Nat.le_of_ble_eq_true rfl⟩) (fun r1 u1 H locs hp1 hW => ?_)
  have hc1 : ((r1.toInt = 1 ∧ (0 ≤ a0.toInt ∧ a0.toInt < (J 13 32).toInt)) ∨ (r1.toInt = 0 ∧ (¬ (0 ≤ a0.toInt ∧ a0.toInt < (J 13 32).toInt)))) := hp1
  clear hp1
  have hW : WB g A s.heap H locs (J, L, I, P, E, N) (sgM g) := hW
  refine lv_if_eq (tgt := 12) hx hb dX12_cut_5 (by decide) (fun c2 => ?_) (fun c2 => ?_)
  · have c2 : r1.toInt = 0 := teq rfl kp0 c2
    refine lv_aload_n hx hb dX12_cut_12 rfl (lv_at hl 0 rfl) ?_
    refine lv_iconst (v := (-1)) hx hb dX12_cut_13 (by decide) ?_
    refine ci_ C hW (runV (x := (g.2.2.1 13)) (As := [.int (-1)]) (rest := []) (T := ((J, L, I, P, E, N), sgM g)) C hW (c_X12_refuse l g J L I P E N H.size (-1) (show -6 ≤ (-1 : Int32).toInt ∧ (-1 : Int32).toInt ≤ -1 from by (try simp only [kn1]); omega)) mi_X12_refuse tw_1239 (recv_ (T := ((J, L, I, P, E, N), sgM g)) C hW (mm_ rfl) rfl rfl) ⟨rfl, rfl, Nat.le_of_ble_eq_true rfl, Nat.le_of_ble_eq_true rfl⟩ rfl hl.1 rfl (Nat.le_of_ble_eq_true rfl) dX12_cut_14 ⟨Nat.le_of_ble_eq_true rfl, Nat.le_of_ble_eq_true rfl⟩) (fun r3 u3 H locs hp3 hW => ?_)
    have hc3 : ((r3 = (-1))) := hp3
    clear hp3
    have hr3 : r3.toInt = (-1) := by rw [hc3]; exact kn1
    have hW : WB g A s.heap H locs ((hv J [100] [] u3), L, I, P, E, N) (sgM g) := hW
    have hWr : WB g A s.heap H locs (hv J [100, 105, 106, 107] [(13, 34)] (hv J [100] [] u3), L, I, P, E, N) (sgM g) := by
      rw [← ag_hvE (J := J) (R := [100, 105, 106, 107]) (F := [(13, 34)]) (ag_hv rfl rfl ag_rf)]
      exact hW
    have hwmr : WM (hv J [100] [] u3) := by exact hwm
    have hwmr : WM (hv J [100, 105, 106, 107] [(13, 34)] (hv J [100] [] u3)) := by
      rw [← ag_hvE (J := J) (R := [100, 105, 106, 107]) (F := [(13, 34)]) (ag_hv rfl rfl ag_rf)]; exact hwmr
    subst hQ9
    exact end_i C hr hlocks (hv J [100] [] u3) hWr ⟨hwmr, by first | exact Or.inl ⟨by omega, by omega, show J 13 34 = J 13 34 from by first | rfl | assumption, show J 105 = J 105 from by first | rfl | assumption, show J 106 = J 106 from by first | rfl | assumption, show J 107 = J 107 from by first | rfl | assumption⟩ | exact Or.inr (Or.inl ⟨by omega, by omega, show J 13 34 = J 13 34 from by first | rfl | assumption, show J 105 = J 105 from by first | rfl | assumption, show J 106 = J 106 from by first | rfl | assumption, show J 107 = J 107 from by first | rfl | assumption⟩) | exact Or.inr (Or.inr (Or.inl ⟨by omega, by omega, show J 13 34 = J 13 34 from by first | rfl | assumption, show J 105 = J 105 from by first | rfl | assumption, show J 106 = J 106 from by first | rfl | assumption, show J 107 = J 107 from by first | rfl | assumption⟩)) | exact Or.inr (Or.inr (Or.inr (⟨by omega, by omega, show (J 13 34).toInt = (J 13 34).toInt + 1 from by first | rfl | omega, show J 105 = up2 J 105 (J 13 34).toNatClampNeg a0 105 from by first | rfl | omega, show J 106 = up2 J 106 (J 13 34).toNatClampNeg a1 106 from by first | rfl | omega, show J 107 = up2 J 107 (J 13 34).toNatClampNeg a2 107 from by first | rfl | omega⟩))) | (rcases hc1 with qhc1 | qhc1 <;> first | exact Or.inl ⟨by omega, by omega, show J 13 34 = J 13 34 from by first | rfl | assumption, show J 105 = J 105 from by first | rfl | assumption, show J 106 = J 106 from by first | rfl | assumption, show J 107 = J 107 from by first | rfl | assumption⟩ | exact Or.inr (Or.inl ⟨by omega, by omega, show J 13 34 = J 13 34 from by first | rfl | assumption, show J 105 = J 105 from by first | rfl | assumption, show J 106 = J 106 from by first | rfl | assumption, show J 107 = J 107 from by first | rfl | assumption⟩) | exact Or.inr (Or.inr (Or.inl ⟨by omega, by omega, show J 13 34 = J 13 34 from by first | rfl | assumption, show J 105 = J 105 from by first | rfl | assumption, show J 106 = J 106 from by first | rfl | assumption, show J 107 = J 107 from by first | rfl | assumption⟩)) | exact Or.inr (Or.inr (Or.inr (⟨by omega, by omega, show (J 13 34).toInt = (J 13 34).toInt + 1 from by first | rfl | omega, show J 105 = up2 J 105 (J 13 34).toNatClampNeg a0 105 from by first | rfl | omega, show J 106 = up2 J 106 (J 13 34).toNatClampNeg a1 106 from by first | rfl | omega, show J 107 = up2 J 107 (J 13 34).toNatClampNeg a2 107 from by first | rfl | omega⟩))) | (exfalso; omega))⟩ dX12_cut_17
  · have c2 : ¬ r1.toInt = 0 := tne rfl kp0 c2
    refine lv_iload_n hx hb dX12_cut_8 rfl (lv_at hl 1 rfl) ?_
    refine lv_if_ne (tgt := 18) hx hb dX12_cut_9 (by decide) (fun c4 => ?_) (fun c4 => ?_)
    · have c4 : ¬ a0.toInt = 0 := tne rfl kp0 c4
      refine lv_iload_n hx hb dX12_cut_18 rfl (lv_at hl 2 rfl) ?_
      refine lv_aload_n hx hb dX12_cut_19 rfl (lv_at hl 0 rfl) ?_
      refine rg_13_31 C hW (mm_ rfl) tw_1054 dX12_cut_20 ?_
      refine lv_icmp_lt (tgt := 31) hx hb dX12_cut_23 (by decide) (fun c5 => ?_) (fun c5 => ?_)
      · have c5 : a1.toInt < (J 13 31).toInt := tlt rfl rfl c5
        refine lv_aload_n hx hb dX12_cut_31 rfl (lv_at hl 0 rfl) ?_
        refine lv_bipush (v := (-4)) hx hb dX12_cut_32 (by decide) ?_
        refine ci_ C hW (runV (x := (g.2.2.1 13)) (As := [.int (-4)]) (rest := []) (T := ((J, L, I, P, E, N), sgM g)) C hW (c_X12_refuse l g J L I P E N H.size (-4) (show -6 ≤ (-4 : Int32).toInt ∧ (-4 : Int32).toInt ≤ -1 from by (try simp only [kn4]); omega)) mi_X12_refuse tw_1239 (recv_ (T := ((J, L, I, P, E, N), sgM g)) C hW (mm_ rfl) rfl rfl) ⟨rfl, rfl, Nat.le_of_ble_eq_true rfl, Nat.le_of_ble_eq_true rfl⟩ rfl hl.1 rfl (Nat.le_of_ble_eq_true rfl) dX12_cut_34 ⟨Nat.le_of_ble_eq_true rfl, Nat.le_of_ble_eq_true rfl⟩) (fun r6 u6 H locs hp6 hW => ?_)
        have hc6 : ((r6 = (-4))) := hp6
        clear hp6
        have hr6 : r6.toInt = (-4) := by rw [hc6]; exact kn4
        have hW : WB g A s.heap H locs ((hv J [100] [] u6), L, I, P, E, N) (sgM g) := hW
        have hWr : WB g A s.heap H locs (hv J [100, 105, 106, 107] [(13, 34)] (hv J [100] [] u6), L, I, P, E, N) (sgM g) := by
          rw [← ag_hvE (J := J) (R := [100, 105, 106, 107]) (F := [(13, 34)]) (ag_hv rfl rfl ag_rf)]
          exact hW
        have hwmr : WM (hv J [100] [] u6) := by exact hwm
        have hwmr : WM (hv J [100, 105, 106, 107] [(13, 34)] (hv J [100] [] u6)) := by
          rw [← ag_hvE (J := J) (R := [100, 105, 106, 107]) (F := [(13, 34)]) (ag_hv rfl rfl ag_rf)]; exact hwmr
        subst hQ9
        exact end_i C hr hlocks (hv J [100] [] u6) hWr ⟨hwmr, by first | exact Or.inl ⟨by omega, by omega, show J 13 34 = J 13 34 from by first | rfl | assumption, show J 105 = J 105 from by first | rfl | assumption, show J 106 = J 106 from by first | rfl | assumption, show J 107 = J 107 from by first | rfl | assumption⟩ | exact Or.inr (Or.inl ⟨by omega, by omega, show J 13 34 = J 13 34 from by first | rfl | assumption, show J 105 = J 105 from by first | rfl | assumption, show J 106 = J 106 from by first | rfl | assumption, show J 107 = J 107 from by first | rfl | assumption⟩) | exact Or.inr (Or.inr (Or.inl ⟨by omega, by omega, show J 13 34 = J 13 34 from by first | rfl | assumption, show J 105 = J 105 from by first | rfl | assumption, show J 106 = J 106 from by first | rfl | assumption, show J 107 = J 107 from by first | rfl | assumption⟩)) | exact Or.inr (Or.inr (Or.inr (⟨by omega, by omega, show (J 13 34).toInt = (J 13 34).toInt + 1 from by first | rfl | omega, show J 105 = up2 J 105 (J 13 34).toNatClampNeg a0 105 from by first | rfl | omega, show J 106 = up2 J 106 (J 13 34).toNatClampNeg a1 106 from by first | rfl | omega, show J 107 = up2 J 107 (J 13 34).toNatClampNeg a2 107 from by first | rfl | omega⟩))) | (rcases hc1 with qhc1 | qhc1 <;> first | exact Or.inl ⟨by omega, by omega, show J 13 34 = J 13 34 from by first | rfl | assumption, show J 105 = J 105 from by first | rfl | assumption, show J 106 = J 106 from by first | rfl | assumption, show J 107 = J 107 from by first | rfl | assumption⟩ | exact Or.inr (Or.inl ⟨by omega, by omega, show J 13 34 = J 13 34 from by first | rfl | assumption, show J 105 = J 105 from by first | rfl | assumption, show J 106 = J 106 from by first | rfl | assumption, show J 107 = J 107 from by first | rfl | assumption⟩) | exact Or.inr (Or.inr (Or.inl ⟨by omega, by omega, show J 13 34 = J 13 34 from by first | rfl | assumption, show J 105 = J 105 from by first | rfl | assumption, show J 106 = J 106 from by first | rfl | assumption, show J 107 = J 107 from by first | rfl | assumption⟩)) | exact Or.inr (Or.inr (Or.inr (⟨by omega, by omega, show (J 13 34).toInt = (J 13 34).toInt + 1 from by first | rfl | omega, show J 105 = up2 J 105 (J 13 34).toNatClampNeg a0 105 from by first | rfl | omega, show J 106 = up2 J 106 (J 13 34).toNatClampNeg a1 106 from by first | rfl | omega, show J 107 = up2 J 107 (J 13 34).toNatClampNeg a2 107 from by first | rfl | omega⟩))) | (exfalso; omega))⟩ dX12_cut_37
      · have c5 : (J 13 31).toInt ≤ a1.toInt := tnlt rfl rfl c5
        refine lv_iload_n hx hb dX12_cut_26 rfl (lv_at hl 3 rfl) ?_
        refine lv_iload_n hx hb dX12_cut_27 rfl (lv_at hl 2 rfl) ?_
        refine lv_icmp_ge (tgt := 38) hx hb dX12_cut_28 (by decide) (fun c7 => ?_) (fun c7 => ?_)
        · have c7 : a1.toInt ≤ a2.toInt := tle rfl rfl c7
          refine lv_iload_n hx hb dX12_cut_38 rfl (lv_at hl 3 rfl) ?_
          refine lv_sipush (v := 9999) hx hb dX12_cut_39 (by decide) ?_
          refine lv_icmp_gt (tgt := 54) hx hb dX12_cut_42 (by decide) (fun c8 => ?_) (fun c8 => ?_)
          · have c8 : 9999 < a2.toInt := tlt kp9999 rfl c8
            refine lv_aload_n hx hb dX12_cut_54 rfl (lv_at hl 0 rfl) ?_
            refine lv_bipush (v := (-6)) hx hb dX12_cut_55 (by decide) ?_
            refine ci_ C hW (runV (x := (g.2.2.1 13)) (As := [.int (-6)]) (rest := []) (T := ((J, L, I, P, E, N), sgM g)) C hW (c_X12_refuse l g J L I P E N H.size (-6) (show -6 ≤ (-6 : Int32).toInt ∧ (-6 : Int32).toInt ≤ -1 from by (try simp only [kn6]); omega)) mi_X12_refuse tw_1239 (recv_ (T := ((J, L, I, P, E, N), sgM g)) C hW (mm_ rfl) rfl rfl) ⟨rfl, rfl, Nat.le_of_ble_eq_true rfl, Nat.le_of_ble_eq_true rfl⟩ rfl hl.1 rfl (Nat.le_of_ble_eq_true rfl) dX12_cut_57 ⟨Nat.le_of_ble_eq_true rfl, Nat.le_of_ble_eq_true rfl⟩) (fun r9 u9 H locs hp9 hW => ?_)
            have hc9 : ((r9 = (-6))) := hp9
            clear hp9
            have hr9 : r9.toInt = (-6) := by rw [hc9]; exact kn6
            have hW : WB g A s.heap H locs ((hv J [100] [] u9), L, I, P, E, N) (sgM g) := hW
            have hWr : WB g A s.heap H locs (hv J [100, 105, 106, 107] [(13, 34)] (hv J [100] [] u9), L, I, P, E, N) (sgM g) := by
              rw [← ag_hvE (J := J) (R := [100, 105, 106, 107]) (F := [(13, 34)]) (ag_hv rfl rfl ag_rf)]
              exact hW
            have hwmr : WM (hv J [100] [] u9) := by exact hwm
            have hwmr : WM (hv J [100, 105, 106, 107] [(13, 34)] (hv J [100] [] u9)) := by
              rw [← ag_hvE (J := J) (R := [100, 105, 106, 107]) (F := [(13, 34)]) (ag_hv rfl rfl ag_rf)]; exact hwmr
            subst hQ9
            exact end_i C hr hlocks (hv J [100] [] u9) hWr ⟨hwmr, by first | exact Or.inl ⟨by omega, by omega, show J 13 34 = J 13 34 from by first | rfl | assumption, show J 105 = J 105 from by first | rfl | assumption, show J 106 = J 106 from by first | rfl | assumption, show J 107 = J 107 from by first | rfl | assumption⟩ | exact Or.inr (Or.inl ⟨by omega, by omega, show J 13 34 = J 13 34 from by first | rfl | assumption, show J 105 = J 105 from by first | rfl | assumption, show J 106 = J 106 from by first | rfl | assumption, show J 107 = J 107 from by first | rfl | assumption⟩) | exact Or.inr (Or.inr (Or.inl ⟨by omega, by omega, show J 13 34 = J 13 34 from by first | rfl | assumption, show J 105 = J 105 from by first | rfl | assumption, show J 106 = J 106 from by first | rfl | assumption, show J 107 = J 107 from by first | rfl | assumption⟩)) | exact Or.inr (Or.inr (Or.inr (⟨by omega, by omega, show (J 13 34).toInt = (J 13 34).toInt + 1 from by first | rfl | omega, show J 105 = up2 J 105 (J 13 34).toNatClampNeg a0 105 from by first | rfl | omega, show J 106 = up2 J 106 (J 13 34).toNatClampNeg a1 106 from by first | rfl | omega, show J 107 = up2 J 107 (J 13 34).toNatClampNeg a2 107 from by first | rfl | omega⟩))) | (rcases hc1 with qhc1 | qhc1 <;> first | exact Or.inl ⟨by omega, by omega, show J 13 34 = J 13 34 from by first | rfl | assumption, show J 105 = J 105 from by first | rfl | assumption, show J 106 = J 106 from by first | rfl | assumption, show J 107 = J 107 from by first | rfl | assumption⟩ | exact Or.inr (Or.inl ⟨by omega, by omega, show J 13 34 = J 13 34 from by first | rfl | assumption, show J 105 = J 105 from by first | rfl | assumption, show J 106 = J 106 from by first | rfl | assumption, show J 107 = J 107 from by first | rfl | assumption⟩) | exact Or.inr (Or.inr (Or.inl ⟨by omega, by omega, show J 13 34 = J 13 34 from by first | rfl | assumption, show J 105 = J 105 from by first | rfl | assumption, show J 106 = J 106 from by first | rfl | assumption, show J 107 = J 107 from by first | rfl | assumption⟩)) | exact Or.inr (Or.inr (Or.inr (⟨by omega, by omega, show (J 13 34).toInt = (J 13 34).toInt + 1 from by first | rfl | omega, show J 105 = up2 J 105 (J 13 34).toNatClampNeg a0 105 from by first | rfl | omega, show J 106 = up2 J 106 (J 13 34).toNatClampNeg a1 106 from by first | rfl | omega, show J 107 = up2 J 107 (J 13 34).toNatClampNeg a2 107 from by first | rfl | omega⟩))) | (exfalso; omega))⟩ dX12_cut_60
          · have c8 : a2.toInt ≤ 9999 := tnlt kp9999 rfl c8
            refine lv_aload_n hx hb dX12_cut_45 rfl (lv_at hl 0 rfl) ?_
            refine rg_13_34 C hW (mm_ rfl) tw_1057 dX12_cut_46 ?_
            refine lv_bipush (v := 40) hx hb dX12_cut_49 (by decide) ?_
            refine lv_icmp_ne (tgt := 61) hx hb dX12_cut_51 (by decide) (fun c10 => ?_) (fun c10 => ?_)
            · have c10 : ¬ (J 13 34).toInt = 40 := tne rfl kp40 c10
              refine lv_aload_n hx hb dX12_cut_61 rfl (lv_at hl 0 rfl) ?_
              refine rg_13_5 C hW (mm_ rfl) tw_1028 dX12_cut_62 ?_
              refine lv_aload_n hx hb dX12_cut_65 rfl (lv_at hl 0 rfl) ?_
              refine rg_13_34 C hW (mm_ rfl) tw_1057 dX12_cut_66 ?_
              refine lv_iload_n hx hb dX12_cut_69 rfl (lv_at hl 1 rfl) ?_
              have hin : vp_in (J 13 34) 40 := tin rfl (by omega)
              refine rs_105 C hW (mm_ rfl) hin dX12_cut_70 (fun H locs hW => ?_)
              refine lv_aload_n hx hb dX12_cut_71 rfl (lv_at hl 0 rfl) ?_
              refine rg_13_6 C hW (mm_ rfl) tw_1029 dX12_cut_72 ?_
              refine lv_aload_n hx hb dX12_cut_75 rfl (lv_at hl 0 rfl) ?_
              refine rg_13_34 C hW (mm_ rfl) tw_1057 dX12_cut_76 ?_
              refine lv_as (J 13 34) rfl ?_
              refine lv_iload_n hx hb dX12_cut_79 rfl (lv_at hl 2 rfl) ?_
              have hin : vp_in (J 13 34) 40 := tin rfl (by omega)
              refine rs_106 C hW (mm_ rfl) hin dX12_cut_80 (fun H locs hW => ?_)
              refine lv_aload_n hx hb dX12_cut_81 rfl (lv_at hl 0 rfl) ?_
              refine rg_13_7 C hW (mm_ rfl) tw_1030 dX12_cut_82 ?_
              refine lv_aload_n hx hb dX12_cut_85 rfl (lv_at hl 0 rfl) ?_
              refine rg_13_34 C hW (mm_ rfl) tw_1057 dX12_cut_86 ?_
              refine lv_as (J 13 34) rfl ?_
              refine lv_iload_n hx hb dX12_cut_89 rfl (lv_at hl 3 rfl) ?_
              have hin : vp_in (J 13 34) 40 := tin rfl (by omega)
              refine rs_107 C hW (mm_ rfl) hin dX12_cut_90 (fun H locs hW => ?_)
              refine lv_aload_n hx hb dX12_cut_91 rfl (lv_at hl 0 rfl) ?_
              refine lv_dup hx hb dX12_cut_92 rfl ?_
              refine rg_13_34 C hW (mm_ rfl) tw_1057 dX12_cut_93 ?_
              refine lv_as (J 13 34) rfl ?_
              refine lv_iconst (v := 1) hx hb dX12_cut_96 (by decide) ?_
              refine lv_iadd hx hb dX12_cut_97 ?_
              refine lv_topi (fun x11 (e11 : x11 = (J 13 34) + 1) => ?_)
              try have t11 : x11.toInt = (J 13 34).toInt + 1 := tadd e11 rfl kp1 (by omega)
              refine rp_13_34 C hW (mm_ rfl) tw_1057 dX12_cut_98 (fun H locs hW => ?_)
              refine lv_aload_n hx hb dX12_cut_101 rfl (lv_at hl 0 rfl) ?_
              refine rg_13_34 C hW (mm_ rfl) tw_1057 dX12_cut_102 ?_
              refine lv_as x11 rfl ?_
              have hWr : WB g A s.heap H locs (hv J [100, 105, 106, 107] [(13, 34)] (up2 (up2 (up2 (up2 J 105 ((J 13 34).toNatClampNeg) a0) 106 ((J 13 34).toNatClampNeg) a1) 107 ((J 13 34).toNatClampNeg) a2) 13 34 x11), L, I, P, E, N) (sgM g) := by
                rw [← ag_hvE (J := J) (R := [100, 105, 106, 107]) (F := [(13, 34)]) (ag_up (Or.inr rfl) (ag_up (Or.inl rfl) (ag_up (Or.inl rfl) (ag_up (Or.inl rfl) ag_rf))))]
                exact hW
              have hwmr : WM (up2 (up2 (up2 (up2 J 105 ((J 13 34).toNatClampNeg) a0) 106 ((J 13 34).toNatClampNeg) a1) 107 ((J 13 34).toNatClampNeg) a2) 13 34 x11) := by exact wm_cut (a := J 0) (b := J 0) (c := J 0) hwm (by omega)
              have hwmr : WM (hv J [100, 105, 106, 107] [(13, 34)] (up2 (up2 (up2 (up2 J 105 ((J 13 34).toNatClampNeg) a0) 106 ((J 13 34).toNatClampNeg) a1) 107 ((J 13 34).toNatClampNeg) a2) 13 34 x11)) := by
                rw [← ag_hvE (J := J) (R := [100, 105, 106, 107]) (F := [(13, 34)]) (ag_up (Or.inr rfl) (ag_up (Or.inl rfl) (ag_up (Or.inl rfl) (ag_up (Or.inl rfl) ag_rf))))]; exact hwmr
              subst hQ9
              exact end_i C hr hlocks (up2 (up2 (up2 (up2 J 105 ((J 13 34).toNatClampNeg) a0) 106 ((J 13 34).toNatClampNeg) a1) 107 ((J 13 34).toNatClampNeg) a2) 13 34 x11) hWr ⟨hwmr, by first | exact Or.inl ⟨by omega, by omega, show x11 = J 13 34 from by first | rfl | assumption, show (up2 J 105 ((J 13 34).toNatClampNeg) a0) 105 = J 105 from by first | rfl | assumption, show (up2 J 106 ((J 13 34).toNatClampNeg) a1) 106 = J 106 from by first | rfl | assumption, show (up2 J 107 ((J 13 34).toNatClampNeg) a2) 107 = J 107 from by first | rfl | assumption⟩ | exact Or.inr (Or.inl ⟨by omega, by omega, show x11 = J 13 34 from by first | rfl | assumption, show (up2 J 105 ((J 13 34).toNatClampNeg) a0) 105 = J 105 from by first | rfl | assumption, show (up2 J 106 ((J 13 34).toNatClampNeg) a1) 106 = J 106 from by first | rfl | assumption, show (up2 J 107 ((J 13 34).toNatClampNeg) a2) 107 = J 107 from by first | rfl | assumption⟩) | exact Or.inr (Or.inr (Or.inl ⟨by omega, by omega, show x11 = J 13 34 from by first | rfl | assumption, show (up2 J 105 ((J 13 34).toNatClampNeg) a0) 105 = J 105 from by first | rfl | assumption, show (up2 J 106 ((J 13 34).toNatClampNeg) a1) 106 = J 106 from by first | rfl | assumption, show (up2 J 107 ((J 13 34).toNatClampNeg) a2) 107 = J 107 from by first | rfl | assumption⟩)) | exact Or.inr (Or.inr (Or.inr (⟨by omega, by omega, show (x11).toInt = (J 13 34).toInt + 1 from by first | rfl | omega, show (up2 J 105 ((J 13 34).toNatClampNeg) a0) 105 = up2 J 105 (J 13 34).toNatClampNeg a0 105 from by first | rfl | omega, show (up2 J 106 ((J 13 34).toNatClampNeg) a1) 106 = up2 J 106 (J 13 34).toNatClampNeg a1 106 from by first | rfl | omega, show (up2 J 107 ((J 13 34).toNatClampNeg) a2) 107 = up2 J 107 (J 13 34).toNatClampNeg a2 107 from by first | rfl | omega⟩))) | (rcases hc1 with qhc1 | qhc1 <;> first | exact Or.inl ⟨by omega, by omega, show x11 = J 13 34 from by first | rfl | assumption, show (up2 J 105 ((J 13 34).toNatClampNeg) a0) 105 = J 105 from by first | rfl | assumption, show (up2 J 106 ((J 13 34).toNatClampNeg) a1) 106 = J 106 from by first | rfl | assumption, show (up2 J 107 ((J 13 34).toNatClampNeg) a2) 107 = J 107 from by first | rfl | assumption⟩ | exact Or.inr (Or.inl ⟨by omega, by omega, show x11 = J 13 34 from by first | rfl | assumption, show (up2 J 105 ((J 13 34).toNatClampNeg) a0) 105 = J 105 from by first | rfl | assumption, show (up2 J 106 ((J 13 34).toNatClampNeg) a1) 106 = J 106 from by first | rfl | assumption, show (up2 J 107 ((J 13 34).toNatClampNeg) a2) 107 = J 107 from by first | rfl | assumption⟩) | exact Or.inr (Or.inr (Or.inl ⟨by omega, by omega, show x11 = J 13 34 from by first | rfl | assumption, show (up2 J 105 ((J 13 34).toNatClampNeg) a0) 105 = J 105 from by first | rfl | assumption, show (up2 J 106 ((J 13 34).toNatClampNeg) a1) 106 = J 106 from by first | rfl | assumption, show (up2 J 107 ((J 13 34).toNatClampNeg) a2) 107 = J 107 from by first | rfl | assumption⟩)) | exact Or.inr (Or.inr (Or.inr (⟨by omega, by omega, show (x11).toInt = (J 13 34).toInt + 1 from by first | rfl | omega, show (up2 J 105 ((J 13 34).toNatClampNeg) a0) 105 = up2 J 105 (J 13 34).toNatClampNeg a0 105 from by first | rfl | omega, show (up2 J 106 ((J 13 34).toNatClampNeg) a1) 106 = up2 J 106 (J 13 34).toNatClampNeg a1 106 from by first | rfl | omega, show (up2 J 107 ((J 13 34).toNatClampNeg) a2) 107 = up2 J 107 (J 13 34).toNatClampNeg a2 107 from by first | rfl | omega⟩))) | (exfalso; omega))⟩ dX12_cut_105
            · have c10 : (J 13 34).toInt = 40 := teq rfl kp40 c10
              refine lv_aload_n hx hb dX12_cut_54 rfl (lv_at hl 0 rfl) ?_
              refine lv_bipush (v := (-6)) hx hb dX12_cut_55 (by decide) ?_
              refine ci_ C hW (runV (x := (g.2.2.1 13)) (As := [.int (-6)]) (rest := []) (T := ((J, L, I, P, E, N), sgM g)) C hW (c_X12_refuse l g J L I P E N H.size (-6) (show -6 ≤ (-6 : Int32).toInt ∧ (-6 : Int32).toInt ≤ -1 from by (try simp only [kn6]); omega)) mi_X12_refuse tw_1239 (recv_ (T := ((J, L, I, P, E, N), sgM g)) C hW (mm_ rfl) rfl rfl) ⟨rfl, rfl, Nat.le_of_ble_eq_true rfl, Nat.le_of_ble_eq_true rfl⟩ rfl hl.1 rfl (Nat.le_of_ble_eq_true rfl) dX12_cut_57 ⟨Nat.le_of_ble_eq_true rfl, Nat.le_of_ble_eq_true rfl⟩) (fun r12 u12 H locs hp12 hW => ?_)
              have hc12 : ((r12 = (-6))) := hp12
              clear hp12
              have hr12 : r12.toInt = (-6) := by rw [hc12]; exact kn6
              have hW : WB g A s.heap H locs ((hv J [100] [] u12), L, I, P, E, N) (sgM g) := hW
              have hWr : WB g A s.heap H locs (hv J [100, 105, 106, 107] [(13, 34)] (hv J [100] [] u12), L, I, P, E, N) (sgM g) := by
                rw [← ag_hvE (J := J) (R := [100, 105, 106, 107]) (F := [(13, 34)]) (ag_hv rfl rfl ag_rf)]
                exact hW
              have hwmr : WM (hv J [100] [] u12) := by exact hwm
              have hwmr : WM (hv J [100, 105, 106, 107] [(13, 34)] (hv J [100] [] u12)) := by
                rw [← ag_hvE (J := J) (R := [100, 105, 106, 107]) (F := [(13, 34)]) (ag_hv rfl rfl ag_rf)]; exact hwmr
              subst hQ9
              exact end_i C hr hlocks (hv J [100] [] u12) hWr ⟨hwmr, by first | exact Or.inl ⟨by omega, by omega, show J 13 34 = J 13 34 from by first | rfl | assumption, show J 105 = J 105 from by first | rfl | assumption, show J 106 = J 106 from by first | rfl | assumption, show J 107 = J 107 from by first | rfl | assumption⟩ | exact Or.inr (Or.inl ⟨by omega, by omega, show J 13 34 = J 13 34 from by first | rfl | assumption, show J 105 = J 105 from by first | rfl | assumption, show J 106 = J 106 from by first | rfl | assumption, show J 107 = J 107 from by first | rfl | assumption⟩) | exact Or.inr (Or.inr (Or.inl ⟨by omega, by omega, show J 13 34 = J 13 34 from by first | rfl | assumption, show J 105 = J 105 from by first | rfl | assumption, show J 106 = J 106 from by first | rfl | assumption, show J 107 = J 107 from by first | rfl | assumption⟩)) | exact Or.inr (Or.inr (Or.inr (⟨by omega, by omega, show (J 13 34).toInt = (J 13 34).toInt + 1 from by first | rfl | omega, show J 105 = up2 J 105 (J 13 34).toNatClampNeg a0 105 from by first | rfl | omega, show J 106 = up2 J 106 (J 13 34).toNatClampNeg a1 106 from by first | rfl | omega, show J 107 = up2 J 107 (J 13 34).toNatClampNeg a2 107 from by first | rfl | omega⟩))) | (rcases hc1 with qhc1 | qhc1 <;> first | exact Or.inl ⟨by omega, by omega, show J 13 34 = J 13 34 from by first | rfl | assumption, show J 105 = J 105 from by first | rfl | assumption, show J 106 = J 106 from by first | rfl | assumption, show J 107 = J 107 from by first | rfl | assumption⟩ | exact Or.inr (Or.inl ⟨by omega, by omega, show J 13 34 = J 13 34 from by first | rfl | assumption, show J 105 = J 105 from by first | rfl | assumption, show J 106 = J 106 from by first | rfl | assumption, show J 107 = J 107 from by first | rfl | assumption⟩) | exact Or.inr (Or.inr (Or.inl ⟨by omega, by omega, show J 13 34 = J 13 34 from by first | rfl | assumption, show J 105 = J 105 from by first | rfl | assumption, show J 106 = J 106 from by first | rfl | assumption, show J 107 = J 107 from by first | rfl | assumption⟩)) | exact Or.inr (Or.inr (Or.inr (⟨by omega, by omega, show (J 13 34).toInt = (J 13 34).toInt + 1 from by first | rfl | omega, show J 105 = up2 J 105 (J 13 34).toNatClampNeg a0 105 from by first | rfl | omega, show J 106 = up2 J 106 (J 13 34).toNatClampNeg a1 106 from by first | rfl | omega, show J 107 = up2 J 107 (J 13 34).toNatClampNeg a2 107 from by first | rfl | omega⟩))) | (exfalso; omega))⟩ dX12_cut_60
        · have c7 : a2.toInt < a1.toInt := tnle rfl rfl c7
          refine lv_aload_n hx hb dX12_cut_31 rfl (lv_at hl 0 rfl) ?_
          refine lv_bipush (v := (-4)) hx hb dX12_cut_32 (by decide) ?_
          refine ci_ C hW (runV (x := (g.2.2.1 13)) (As := [.int (-4)]) (rest := []) (T := ((J, L, I, P, E, N), sgM g)) C hW (c_X12_refuse l g J L I P E N H.size (-4) (show -6 ≤ (-4 : Int32).toInt ∧ (-4 : Int32).toInt ≤ -1 from by (try simp only [kn4]); omega)) mi_X12_refuse tw_1239 (recv_ (T := ((J, L, I, P, E, N), sgM g)) C hW (mm_ rfl) rfl rfl) ⟨rfl, rfl, Nat.le_of_ble_eq_true rfl, Nat.le_of_ble_eq_true rfl⟩ rfl hl.1 rfl (Nat.le_of_ble_eq_true rfl) dX12_cut_34 ⟨Nat.le_of_ble_eq_true rfl, Nat.le_of_ble_eq_true rfl⟩) (fun r13 u13 H locs hp13 hW => ?_)
          have hc13 : ((r13 = (-4))) := hp13
          clear hp13
          have hr13 : r13.toInt = (-4) := by rw [hc13]; exact kn4
          have hW : WB g A s.heap H locs ((hv J [100] [] u13), L, I, P, E, N) (sgM g) := hW
          have hWr : WB g A s.heap H locs (hv J [100, 105, 106, 107] [(13, 34)] (hv J [100] [] u13), L, I, P, E, N) (sgM g) := by
            rw [← ag_hvE (J := J) (R := [100, 105, 106, 107]) (F := [(13, 34)]) (ag_hv rfl rfl ag_rf)]
            exact hW
          have hwmr : WM (hv J [100] [] u13) := by exact hwm
          have hwmr : WM (hv J [100, 105, 106, 107] [(13, 34)] (hv J [100] [] u13)) := by
            rw [← ag_hvE (J := J) (R := [100, 105, 106, 107]) (F := [(13, 34)]) (ag_hv rfl rfl ag_rf)]; exact hwmr
          subst hQ9
          exact end_i C hr hlocks (hv J [100] [] u13) hWr ⟨hwmr, by first | exact Or.inl ⟨by omega, by omega, show J 13 34 = J 13 34 from by first | rfl | assumption, show J 105 = J 105 from by first | rfl | assumption, show J 106 = J 106 from by first | rfl | assumption, show J 107 = J 107 from by first | rfl | assumption⟩ | exact Or.inr (Or.inl ⟨by omega, by omega, show J 13 34 = J 13 34 from by first | rfl | assumption, show J 105 = J 105 from by first | rfl | assumption, show J 106 = J 106 from by first | rfl | assumption, show J 107 = J 107 from by first | rfl | assumption⟩) | exact Or.inr (Or.inr (Or.inl ⟨by omega, by omega, show J 13 34 = J 13 34 from by first | rfl | assumption, show J 105 = J 105 from by first | rfl | assumption, show J 106 = J 106 from by first | rfl | assumption, show J 107 = J 107 from by first | rfl | assumption⟩)) | exact Or.inr (Or.inr (Or.inr (⟨by omega, by omega, show (J 13 34).toInt = (J 13 34).toInt + 1 from by first | rfl | omega, show J 105 = up2 J 105 (J 13 34).toNatClampNeg a0 105 from by first | rfl | omega, show J 106 = up2 J 106 (J 13 34).toNatClampNeg a1 106 from by first | rfl | omega, show J 107 = up2 J 107 (J 13 34).toNatClampNeg a2 107 from by first | rfl | omega⟩))) | (rcases hc1 with qhc1 | qhc1 <;> first | exact Or.inl ⟨by omega, by omega, show J 13 34 = J 13 34 from by first | rfl | assumption, show J 105 = J 105 from by first | rfl | assumption, show J 106 = J 106 from by first | rfl | assumption, show J 107 = J 107 from by first | rfl | assumption⟩ | exact Or.inr (Or.inl ⟨by omega, by omega, show J 13 34 = J 13 34 from by first | rfl | assumption, show J 105 = J 105 from by first | rfl | assumption, show J 106 = J 106 from by first | rfl | assumption, show J 107 = J 107 from by first | rfl | assumption⟩) | exact Or.inr (Or.inr (Or.inl ⟨by omega, by omega, show J 13 34 = J 13 34 from by first | rfl | assumption, show J 105 = J 105 from by first | rfl | assumption, show J 106 = J 106 from by first | rfl | assumption, show J 107 = J 107 from by first | rfl | assumption⟩)) | exact Or.inr (Or.inr (Or.inr (⟨by omega, by omega, show (J 13 34).toInt = (J 13 34).toInt + 1 from by first | rfl | omega, show J 105 = up2 J 105 (J 13 34).toNatClampNeg a0 105 from by first | rfl | omega, show J 106 = up2 J 106 (J 13 34).toNatClampNeg a1 106 from by first | rfl | omega, show J 107 = up2 J 107 (J 13 34).toNatClampNeg a2 107 from by first | rfl | omega⟩))) | (exfalso; omega))⟩ dX12_cut_37
    · have c4 : a0.toInt = 0 := teq rfl kp0 c4
      refine lv_aload_n hx hb dX12_cut_12 rfl (lv_at hl 0 rfl) ?_
      refine lv_iconst (v := (-1)) hx hb dX12_cut_13 (by decide) ?_
      refine ci_ C hW (runV (x := (g.2.2.1 13)) (As := [.int (-1)]) (rest := []) (T := ((J, L, I, P, E, N), sgM g)) C hW (c_X12_refuse l g J L I P E N H.size (-1) (show -6 ≤ (-1 : Int32).toInt ∧ (-1 : Int32).toInt ≤ -1 from by (try simp only [kn1]); omega)) mi_X12_refuse tw_1239 (recv_ (T := ((J, L, I, P, E, N), sgM g)) C hW (mm_ rfl) rfl rfl) ⟨rfl, rfl, Nat.le_of_ble_eq_true rfl, Nat.le_of_ble_eq_true rfl⟩ rfl hl.1 rfl (Nat.le_of_ble_eq_true rfl) dX12_cut_14 ⟨Nat.le_of_ble_eq_true rfl, Nat.le_of_ble_eq_true rfl⟩) (fun r14 u14 H locs hp14 hW => ?_)
      have hc14 : ((r14 = (-1))) := hp14
      clear hp14
      have hr14 : r14.toInt = (-1) := by rw [hc14]; exact kn1
      have hW : WB g A s.heap H locs ((hv J [100] [] u14), L, I, P, E, N) (sgM g) := hW
      have hWr : WB g A s.heap H locs (hv J [100, 105, 106, 107] [(13, 34)] (hv J [100] [] u14), L, I, P, E, N) (sgM g) := by
        rw [← ag_hvE (J := J) (R := [100, 105, 106, 107]) (F := [(13, 34)]) (ag_hv rfl rfl ag_rf)]
        exact hW
      have hwmr : WM (hv J [100] [] u14) := by exact hwm
      have hwmr : WM (hv J [100, 105, 106, 107] [(13, 34)] (hv J [100] [] u14)) := by
        rw [← ag_hvE (J := J) (R := [100, 105, 106, 107]) (F := [(13, 34)]) (ag_hv rfl rfl ag_rf)]; exact hwmr
      subst hQ9
      exact end_i C hr hlocks (hv J [100] [] u14) hWr ⟨hwmr, by first | exact Or.inl ⟨by omega, by omega, show J 13 34 = J 13 34 from by first | rfl | assumption, show J 105 = J 105 from by first | rfl | assumption, show J 106 = J 106 from by first | rfl | assumption, show J 107 = J 107 from by first | rfl | assumption⟩ | exact Or.inr (Or.inl ⟨by omega, by omega, show J 13 34 = J 13 34 from by first | rfl | assumption, show J 105 = J 105 from by first | rfl | assumption, show J 106 = J 106 from by first | rfl | assumption, show J 107 = J 107 from by first | rfl | assumption⟩) | exact Or.inr (Or.inr (Or.inl ⟨by omega, by omega, show J 13 34 = J 13 34 from by first | rfl | assumption, show J 105 = J 105 from by first | rfl | assumption, show J 106 = J 106 from by first | rfl | assumption, show J 107 = J 107 from by first | rfl | assumption⟩)) | exact Or.inr (Or.inr (Or.inr (⟨by omega, by omega, show (J 13 34).toInt = (J 13 34).toInt + 1 from by first | rfl | omega, show J 105 = up2 J 105 (J 13 34).toNatClampNeg a0 105 from by first | rfl | omega, show J 106 = up2 J 106 (J 13 34).toNatClampNeg a1 106 from by first | rfl | omega, show J 107 = up2 J 107 (J 13 34).toNatClampNeg a2 107 from by first | rfl | omega⟩))) | (rcases hc1 with qhc1 | qhc1 <;> first | exact Or.inl ⟨by omega, by omega, show J 13 34 = J 13 34 from by first | rfl | assumption, show J 105 = J 105 from by first | rfl | assumption, show J 106 = J 106 from by first | rfl | assumption, show J 107 = J 107 from by first | rfl | assumption⟩ | exact Or.inr (Or.inl ⟨by omega, by omega, show J 13 34 = J 13 34 from by first | rfl | assumption, show J 105 = J 105 from by first | rfl | assumption, show J 106 = J 106 from by first | rfl | assumption, show J 107 = J 107 from by first | rfl | assumption⟩) | exact Or.inr (Or.inr (Or.inl ⟨by omega, by omega, show J 13 34 = J 13 34 from by first | rfl | assumption, show J 105 = J 105 from by first | rfl | assumption, show J 106 = J 106 from by first | rfl | assumption, show J 107 = J 107 from by first | rfl | assumption⟩)) | exact Or.inr (Or.inr (Or.inr (⟨by omega, by omega, show (J 13 34).toInt = (J 13 34).toInt + 1 from by first | rfl | omega, show J 105 = up2 J 105 (J 13 34).toNatClampNeg a0 105 from by first | rfl | omega, show J 106 = up2 J 106 (J 13 34).toNatClampNeg a1 106 from by first | rfl | omega, show J 107 = up2 J 107 (J 13 34).toNatClampNeg a2 107 from by first | rfl | omega⟩))) | (exfalso; omega))⟩ dX12_cut_17

set_option maxHeartbeats 4000000 in
set_option maxRecDepth 100000 in
theorem c_X12_boosts_e (l : Launch) (g : gG) (J : Nat → Nat → Int32) (L : Nat → Nat → Int64) (I : Nat → Nat → Nat → Int32) (P : Nat → Nat → Nat → Option Nat) (E : Nat → Option Nat) (N : Nat → Nat) (sz : Nat) (a0 : Int32) (hwm : WM J) : Met l yX12_boosts (WS yX12_boosts cX12_boosts 7 (some .int)) (RM (4) 0 0) (PC g [.ref (g.2.2.1 13), .int a0] ((J, L, I, P, E, N), sgM g) sz) (va_Qi (fun (r : Int32) (u : (Nat → Nat → Int32)) => ((∀ k : Nat, J 104 k = 0) → ∀ k : Nat, u 104 k = 0)) (fun u t => at_ g (FR g ((J, L, I, P, E, N), sgM g) sz) ((hv J [100, 104, 146] [] u, L, I, P, E, N), sgM g) t) (FR g ((J, L, I, P, E, N), sgM g) sz)) 0 0 (FR g ((J, L, I, P, E, N), sgM g) sz) := by
  refine ent (by decide +kernel) (Nat.le_of_ble_eq_true rfl) ?_
  intro p e s m below meth c ls hsz C hW hr hlocks hname hl
  generalize FR g ((J, L, I, P, E, N), sgM g) sz = A at C hW ⊢
  generalize hQ9 : (va_Qi (fun (r : Int32) (u : (Nat → Nat → Int32)) => ((∀ k : Nat, J 104 k = 0) → ∀ k : Nat, u 104 k = 0)) (fun u t => at_ g A ((hv J [100, 104, 146] [] u, L, I, P, E, N), sgM g) t) A) = Q9
  have hx := C.1.1
  have hb := C.1.2.1
  have hts := C.1.2.2.2.2
  have hW : WB g A s.heap s.heap [] (J, L, I, P, E, N) (sgM g) := hW
  have hl : lv_has ls 7 [(0, .ref (g.2.2.1 13)), (1, .int a0)] := hl
  obtain ⟨H, hH⟩ : ∃ H : Heap, H = s.heap := ⟨_, rfl⟩
  obtain ⟨locs, hlocs⟩ : ∃ q : List Loc, q = [] := ⟨_, rfl⟩
  have hW : WB g A s.heap H locs (J, L, I, P, E, N) (sgM g) := by rw [hH, hlocs]; exact hW
  obtain ⟨⟨hnd1, hnd2, hon, hhm1, hhm2, hhN, hcu1, hcu2, hco1, hco2, hcN⟩, ⟨hrd1, hrd2⟩, ⟨hnw1, hnw2, hns1, hns2, hof⟩, ⟨htm1, htm2, hts_⟩, ⟨had1, had2, hrw1, hrw2, htp1, htp2⟩⟩ := id hwm
  refine start_ hH hlocs ?_
  refine lv_iload_n hx hb dX12_boosts_0 rfl (lv_at hl 1 rfl) ?_
  refine lv_iconst (v := 1) hx hb dX12_boosts_1 (by decide) ?_
  refine lv_sipush (v := 999) hx hb dX12_boosts_2 (by decide) ?_
  refine ci_ C hW (runS (As := [.int a0, .int 1, .int 999]) (rest := []) (T := ((J, L, I, P, E, N), sgM g)) C hW (c_X12_within l g J L I P E N H.size a0 1 999 ) mi_X12_within tw_1258 ⟨rfl, rfl, Nat.le_of_ble_eq_true rfl, Nat.le_of_ble_eq_true rfl⟩ rfl hl.1 rfl (Nat.le_of_ble_eq_true rfl) dX12_boosts_5 ⟨Nat.le_of_ble_eq_true rfl, Nat.le_of_ble_eq_true rfl⟩) (fun r1 u1 H locs hp1 hW => ?_)
  have hc1 : ((r1.toInt = (-4) ∧ (a0.toInt < 1)) ∨ (r1.toInt = (-6) ∧ (1 ≤ a0.toInt ∧ 999 < a0.toInt)) ∨ (r1.toInt = 0 ∧ (1 ≤ a0.toInt ∧ a0.toInt ≤ 999))) := hp1
  clear hp1
  have hW : WB g A s.heap H locs (J, L, I, P, E, N) (sgM g) := hW
  refine lv_istore_n (lv' := [(2, .int r1), (0, .ref (g.2.2.1 13)), (1, .int a0)]) hx hb dX12_boosts_8 rfl hl (by decide) rfl (fun ls hl => ?_)
  refine lv_iload_n hx hb dX12_boosts_9 rfl (lv_at hl 0 rfl) ?_
  refine lv_if_eq (tgt := 19) hx hb dX12_boosts_10 (by decide) (fun c2 => ?_) (fun c2 => ?_)
  · have c2 : r1.toInt = 0 := teq rfl kp0 c2
    refine lv_bipush (v := (-9)) hx hb dX12_boosts_19 (by decide) ?_
    refine lv_istore_n (lv' := [(3, .int (-9)), (2, .int r1), (0, .ref (g.2.2.1 13)), (1, .int a0)]) hx hb dX12_boosts_21 rfl hl (by decide) rfl (fun ls hl => ?_)
    refine lv_iconst (v := 0) hx hb dX12_boosts_22 (by decide) ?_
    refine lv_istore (lv' := [(4, .int 0), (3, .int (-9)), (2, .int r1), (0, .ref (g.2.2.1 13)), (1, .int a0)]) hx hb dX12_boosts_23 hl (by decide) rfl (fun ls hl => ?_)
    have loop25 : ∀ (n : Nat) (m3 : Int32) (m4 : Int32) (Gl3 : Nat → Nat → Int32) (H : Heap) (locs : List Loc) (ls : Array Slot), (2000000 - m4.toInt).toNat < n → 0 ≤ m4.toInt → (∀ k : Nat, (∀ j : Nat, (j : Int) < (J 13 41).toInt → ¬ (J 125 j).toNatClampNeg = k) → Gl3 104 k = J 104 k) → WB g A s.heap H locs ((hv J [100, 104, 146] [] Gl3), L, I, P, E, N) (sgM g) → lv_has ls 7 [(4, .int m4), (3, .int m3), (2, .int r1), (0, .ref (g.2.2.1 13)), (1, .int a0)] → W p l e (RM (4) 0 0) s m ([.ref (g.2.2.1 13), .int a0] : List Value).toArray below meth c H locs 0 0 (MQ below Q9 ([.ref (g.2.2.1 13), .int a0] : List Value).toArray s 0 0 A) (F0 m 25 ls []) := by
      intro n
      induction n with
      | zero => intro m3 m4 Gl3 H locs ls hmeas; exact absurd hmeas (Nat.not_lt_zero _)
      | succ n ih =>
        intro m3 m4 Gl3 H locs ls hmeas hi hf2 hW hl
        refine lv_iload hx hb dX12_boosts_25 (lv_at hl 0 rfl) ?_
        refine lv_iconst (v := 1) hx hb dX12_boosts_27 (by decide) ?_
        refine lv_aload_n hx hb dX12_boosts_28 rfl (lv_at hl 3 rfl) ?_
        refine rg_13_41 C hW (mm_ rfl) tw_1064 dX12_boosts_29 ?_
        refine lv_as (J 13 41) rfl ?_
        refine lv_ishl hx hb dX12_boosts_32 ?_
        refine lv_topi (fun x4 (e4 : x4 = 1 <<< ((J 13 41) &&& 31)) => ?_)
        have t4 := tshl20 e4 (by omega)
        refine lv_icmp_ge (tgt := 169) hx hb dX12_boosts_33 (by decide) (fun c5 => ?_) (fun c5 => ?_)
        · have c5 : x4.toInt ≤ m4.toInt := tle rfl rfl c5
          refine lv_iconst (v := 0) hx hb dX12_boosts_169 (by decide) ?_
          refine lv_istore (lv' := [(4, .int 0), (3, .int m3), (2, .int r1), (0, .ref (g.2.2.1 13)), (1, .int a0)]) hx hb dX12_boosts_170 hl (by decide) rfl (fun ls hl => ?_)
          have loop172 : ∀ (n172 : Nat) (m4 : Int32) (Gl6 : Nat → Nat → Int32) (H : Heap) (locs : List Loc) (ls : Array Slot), (9 - m4.toInt).toNat < n172 → 0 ≤ m4.toInt → (∀ k : Nat, (∀ j : Nat, (j : Int) < (J 13 41).toInt → ¬ (J 125 j).toNatClampNeg = k) → Gl6 104 k = J 104 k) → (∀ j : Nat, (j : Int) < m4.toInt → Gl6 104 (J 125 j).toNatClampNeg = 0) → WB g A s.heap H locs ((hv (hv J [100, 104, 146] [] Gl3) [104] [] Gl6), L, I, P, E, N) (sgM g) → lv_has ls 7 [(4, .int m4), (3, .int m3), (2, .int r1), (0, .ref (g.2.2.1 13)), (1, .int a0)] → W p l e (RM (4) 0 0) s m ([.ref (g.2.2.1 13), .int a0] : List Value).toArray below meth c H locs 0 0 (MQ below Q9 ([.ref (g.2.2.1 13), .int a0] : List Value).toArray s 0 0 A) (F0 m 172 ls []) := by
            intro n172
            induction n172 with
            | zero => intro m4 Gl6 H locs ls hmeas; exact absurd hmeas (Nat.not_lt_zero _)
            | succ n172 ih172 =>
              intro m4 Gl6 H locs ls hmeas hj hf4 hz4 hW hl
              refine lv_iload hx hb dX12_boosts_172 (lv_at hl 0 rfl) ?_
              refine lv_aload_n hx hb dX12_boosts_174 rfl (lv_at hl 3 rfl) ?_
              refine rg_13_41 C hW (mm_ rfl) tw_1064 dX12_boosts_175 ?_
              refine lv_as (J 13 41) rfl ?_
              refine lv_icmp_ge (tgt := 200) hx hb dX12_boosts_178 (by decide) (fun c7 => ?_) (fun c7 => ?_)
              · have c7 : (J 13 41).toInt ≤ m4.toInt := tle rfl rfl c7
                refine lv_iload_n hx hb dX12_boosts_200 rfl (lv_at hl 1 rfl) ?_
                have hWr : WB g A s.heap H locs (hv J [100, 104, 146] [] (hv (hv J [100, 104, 146] [] Gl3) [104] [] Gl6), L, I, P, E, N) (sgM g) := by
                  rw [← ag_hvE (J := J) (R := [100, 104, 146]) (F := []) (ag_hv rfl rfl (ag_hv rfl rfl ag_rf))]
                  exact hW
                subst hQ9
                exact end_i C hr hlocks (hv (hv J [100, 104, 146] [] Gl3) [104] [] Gl6) hWr (show (∀ k : Nat, J 104 k = 0) → ∀ k : Nat, Gl6 104 k = 0 from by first | exact fun h => h | exact fun h k => (by by_cases q : ∃ j : Nat, (j : Int) < (J 13 41).toInt ∧ (J 125 j).toNatClampNeg = k; obtain ⟨j, q1, q2⟩ := q; rw [← q2]; exact hz4 j (by omega); exact (hf4 k (fun j h1 h2 => q ⟨j, h1, h2⟩)).trans (h k))) dX12_boosts_201
              · have c7 : m4.toInt < (J 13 41).toInt := tnle rfl rfl c7
                refine lv_aload_n hx hb dX12_boosts_181 rfl (lv_at hl 3 rfl) ?_
                refine rg_13_4 C hW (mm_ rfl) tw_1027 dX12_boosts_182 ?_
                refine lv_aload_n hx hb dX12_boosts_185 rfl (lv_at hl 3 rfl) ?_
                refine rg_13_25 C hW (mm_ rfl) tw_1048 dX12_boosts_186 ?_
                refine lv_iload hx hb dX12_boosts_189 (lv_at hl 0 rfl) ?_
                have hin : vp_in m4 9 := tin rfl (by omega)
                refine ra_125 C hW (mm_ rfl) hin dX12_boosts_191 ?_
                refine lv_topi (fun x8 (e8 : x8 = J 125 m4.toNatClampNeg) => ?_)
                have q8 := hcN m4.toNatClampNeg
                rw [← e8] at q8
                have k8 := tcl m4
                refine lv_iconst (v := 0) hx hb dX12_boosts_192 (by decide) ?_
                have hin : vp_in x8 20 := tin rfl (by omega)
                refine rs_104 C hW (mm_ rfl) hin dX12_boosts_193 (fun H locs hW => ?_)
                obtain ⟨x9, e9⟩ : ∃ y : Int32, y = m4 + 1 := ⟨_, rfl⟩
                refine lv_iinc (v := x9) (lv' := [(4, .int x9), (3, .int m3), (2, .int r1), (0, .ref (g.2.2.1 13)), (1, .int a0)]) hx hb dX12_boosts_194 hl (k := 0) rfl (by rw [e9]; rfl) (by decide) rfl (fun ls hl => ?_)
                try have t9 : x9.toInt = m4.toInt + 1 := tadd e9 rfl kp1 (by omega)
                refine lv_goto (tgt := 172) hx hb dX12_boosts_197 (by decide) ?_
                have hWl : WB g A s.heap H locs ((hv (hv J [100, 104, 146] [] Gl3) [104] [] (up2 (hv (hv J [100, 104, 146] [] Gl3) [104] [] Gl6) 104 x8.toNatClampNeg 0)), L, I, P, E, N) (sgM g) := by
                  rw [← ag_hvE (J := (hv J [100, 104, 146] [] Gl3)) (R := [104]) (F := []) (ag_up (Or.inl rfl) (ag_hv rfl rfl ag_rf))]
                  exact hW
                refine ih172 x9 (up2 (hv (hv J [100, 104, 146] [] Gl3) [104] [] Gl6) 104 x8.toNatClampNeg 0) H locs ls ?_ ?_ ?_ ?_ hWl (lv_sub hl [0, 1, 2, 3, 4] rfl)
                · show (9 - x9.toInt).toNat < n172
                  omega
                · show 0 ≤ x9.toInt
                  first | omega | exact hj | assumption
                · show ∀ k : Nat, (∀ j : Nat, (j : Int) < (J 13 41).toInt → ¬ (J 125 j).toNatClampNeg = k) → (up2 Gl6 104 x8.toNatClampNeg 0) 104 k = J 104 k
                  (intro k hk; exact (up2_f _ _ _ (fun q => hk m4.toNatClampNeg (by have h8 := tcl m4; omega) (by rw [← e8]; exact q.symm))).trans (hf4 k hk))
                · show ∀ j : Nat, (j : Int) < x9.toInt → (up2 Gl6 104 x8.toNatClampNeg 0) 104 (J 125 j).toNatClampNeg = 0
                  (intro j hj; by_cases q : (J 125 j).toNatClampNeg = x8.toNatClampNeg; rw [q]; exact up2_s _ _ _ _; exact (up2_f _ _ _ q).trans (hz4 j (by have h8 := tcl m4; have h7 : j ≠ m4.toNatClampNeg := (fun e => q (by rw [e, ← e8])); omega)))
          -- into the loop
          have hWl : WB g A s.heap H locs ((hv (hv J [100, 104, 146] [] Gl3) [104] [] (hv J [100, 104, 146] [] Gl3)), L, I, P, E, N) (sgM g) := by
            rw [← ag_hvE (J := (hv J [100, 104, 146] [] Gl3)) (R := [104]) (F := []) ag_rf]
            exact hW
          refine loop172 ((9 - (0 : Int32).toInt).toNat + 1) 0 (hv J [100, 104, 146] [] Gl3) H locs ls ?_ ?_ ?_ ?_ hWl (lv_sub hl [0, 1, 2, 3, 4] rfl)
          · exact Nat.lt_succ_self _
          · show 0 ≤ (0 : Int32).toInt
            try rw [kp0]
            first | omega | exact hj | assumption
          · show ∀ k : Nat, (∀ j : Nat, (j : Int) < (J 13 41).toInt → ¬ (J 125 j).toNatClampNeg = k) → Gl3 104 k = J 104 k
            try rw [kp0]
            exact hf2
          · show ∀ j : Nat, (j : Int) < (0 : Int32).toInt → Gl3 104 (J 125 j).toNatClampNeg = 0
            try rw [kp0]
            intro j hj; omega
        · have c5 : m4.toInt < x4.toInt := tnle rfl rfl c5
          refine lv_iload_n hx hb dX12_boosts_36 rfl (lv_at hl 1 rfl) ?_
          refine lv_if_lt (tgt := 55) hx hb dX12_boosts_37 (by decide) (fun c10 => ?_) (fun c10 => ?_)
          · have c10 : m3.toInt < 0 := tlt rfl kp0 c10
            refine lv_iconst (v := 0) hx hb dX12_boosts_55 (by decide) ?_
            refine lv_istore (lv' := [(5, .int 0), (4, .int m4), (3, .int m3), (2, .int r1), (0, .ref (g.2.2.1 13)), (1, .int a0)]) hx hb dX12_boosts_56 hl (by decide) rfl (fun ls hl => ?_)
            have loop58 : ∀ (n58 : Nat) (m5 : Int32) (Gl11 : Nat → Nat → Int32) (H : Heap) (locs : List Loc) (ls : Array Slot), (9 - m5.toInt).toNat < n58 → 0 ≤ m5.toInt → (∀ k : Nat, (∀ j : Nat, (j : Int) < (J 13 41).toInt → ¬ (J 125 j).toNatClampNeg = k) → Gl11 104 k = J 104 k) → WB g A s.heap H locs ((hv (hv J [100, 104, 146] [] Gl3) [104] [] Gl11), L, I, P, E, N) (sgM g) → lv_has ls 7 [(5, .int m5), (4, .int m4), (3, .int m3), (2, .int r1), (0, .ref (g.2.2.1 13)), (1, .int a0)] → W p l e (RM (4) 0 0) s m ([.ref (g.2.2.1 13), .int a0] : List Value).toArray below meth c H locs 0 0 (MQ below Q9 ([.ref (g.2.2.1 13), .int a0] : List Value).toArray s 0 0 A) (F0 m 58 ls []) := by
              intro n58
              induction n58 with
              | zero => intro m5 Gl11 H locs ls hmeas; exact absurd hmeas (Nat.not_lt_zero _)
              | succ n58 ih58 =>
                intro m5 Gl11 H locs ls hmeas hj hf3 hW hl
                refine lv_iload hx hb dX12_boosts_58 (lv_at hl 0 rfl) ?_
                refine lv_aload_n hx hb dX12_boosts_60 rfl (lv_at hl 4 rfl) ?_
                refine rg_13_41 C hW (mm_ rfl) tw_1064 dX12_boosts_61 ?_
                refine lv_as (J 13 41) rfl ?_
                refine lv_icmp_ge (tgt := 107) hx hb dX12_boosts_64 (by decide) (fun c12 => ?_) (fun c12 => ?_)
                · have c12 : (J 13 41).toInt ≤ m5.toInt := tle rfl rfl c12
                  refine lv_aload_n hx hb dX12_boosts_107 rfl (lv_at hl 4 rfl) ?_
                  refine lv_iload_n hx hb dX12_boosts_108 rfl (lv_at hl 5 rfl) ?_
                  refine lv_aload_n hx hb dX12_boosts_109 rfl (lv_at hl 4 rfl) ?_
                  refine rg_13_33 C hW (mm_ rfl) tw_1056 dX12_boosts_110 ?_
                  refine lv_as (J 13 33) rfl ?_
                  refine lv_iconst (v := (-1)) hx hb dX12_boosts_113 (by decide) ?_
                  refine cv_ C hW (runV (x := (g.2.2.1 13)) (As := [.int a0, .int (J 13 33), .int (-1)]) (rest := []) (T := (((hv (hv J [100, 104, 146] [] Gl3) [104] [] Gl11), L, I, P, E, N), sgM g)) C hW (c_X12_sounds_e l g (hv (hv J [100, 104, 146] [] Gl3) [104] [] Gl11) L I P E N H.size a0 (J 13 33) (-1) hwm) mi_X12_sounds tw_1277 (recv_ (T := (((hv (hv J [100, 104, 146] [] Gl3) [104] [] Gl11), L, I, P, E, N), sgM g)) C hW (mm_ rfl) rfl rfl) ⟨rfl, rfl, Nat.le_of_ble_eq_true rfl, Nat.le_of_ble_eq_true rfl⟩ rfl hl.1 rfl (Nat.le_of_ble_eq_true rfl) dX12_boosts_114 ⟨Nat.le_of_ble_eq_true rfl, Nat.le_of_ble_eq_true rfl⟩) (fun u13 H locs hp13 hW => ?_)
                  have hf13_0 : (SND (u13 146) (J 101) (J 102) (J 103) (Gl11 104) (fun k => 0 ≤ (-1 : Int32).toInt ∧ CUTP (J 105) (J 106) (J 107) (J 13 34).toInt (-1 : Int32).toInt k) a0 (J 13 33) (J 13 32).toInt) := hp13
                  clear hp13
                  have hW : WB g A s.heap H locs ((hv (hv (hv J [100, 104, 146] [] Gl3) [104] [] Gl11) [146] [] u13), L, I, P, E, N) (sgM g) := hW
                  refine lv_iconst (v := 1) hx hb dX12_boosts_117 (by decide) ?_
                  refine lv_istore (lv' := [(5, .int 1), (4, .int m4), (3, .int m3), (2, .int r1), (0, .ref (g.2.2.1 13)), (1, .int a0)]) hx hb dX12_boosts_118 hl (by decide) rfl (fun ls hl => ?_)
                  refine lv_iconst (v := 0) hx hb dX12_boosts_120 (by decide) ?_
                  refine lv_istore (lv' := [(6, .int 0), (5, .int 1), (4, .int m4), (3, .int m3), (2, .int r1), (0, .ref (g.2.2.1 13)), (1, .int a0)]) hx hb dX12_boosts_121 hl (by decide) rfl (fun ls hl => ?_)
                  have loop123 : ∀ (n123 : Nat) (m5 : Int32) (m6 : Int32) (H : Heap) (locs : List Loc) (ls : Array Slot), (40 - m6.toInt).toNat < n123 → 0 ≤ m6.toInt → WB g A s.heap H locs ((hv (hv (hv J [100, 104, 146] [] Gl3) [104] [] Gl11) [146] [] u13), L, I, P, E, N) (sgM g) → lv_has ls 7 [(6, .int m6), (5, .int m5), (4, .int m4), (3, .int m3), (2, .int r1), (0, .ref (g.2.2.1 13)), (1, .int a0)] → W p l e (RM (4) 0 0) s m ([.ref (g.2.2.1 13), .int a0] : List Value).toArray below meth c H locs 0 0 (MQ below Q9 ([.ref (g.2.2.1 13), .int a0] : List Value).toArray s 0 0 A) (F0 m 123 ls []) := by
                    intro n123
                    induction n123 with
                    | zero => intro m5 m6 H locs ls hmeas; exact absurd hmeas (Nat.not_lt_zero _)
                    | succ n123 ih123 =>
                      intro m5 m6 H locs ls hmeas hj hW hl
                      refine lv_iload hx hb dX12_boosts_123 (lv_at hl 0 rfl) ?_
                      refine lv_aload_n hx hb dX12_boosts_125 rfl (lv_at hl 5 rfl) ?_
                      refine rg_13_35 C hW (mm_ rfl) tw_1058 dX12_boosts_126 ?_
                      refine lv_as (J 13 35) rfl ?_
                      refine lv_icmp_ge (tgt := 151) hx hb dX12_boosts_129 (by decide) (fun c14 => ?_) (fun c14 => ?_)
                      · have c14 : (J 13 35).toInt ≤ m6.toInt := tle rfl rfl c14
                        refine lv_iload hx hb dX12_boosts_151 (lv_at hl 1 rfl) ?_
                        refine lv_if_eq (tgt := 161) hx hb dX12_boosts_153 (by decide) (fun c15 => ?_) (fun c15 => ?_)
                        · have c15 : m5.toInt = 0 := teq rfl kp0 c15
                          refine lv_iload_n hx hb dX12_boosts_161 rfl (lv_at hl 3 rfl) ?_
                          refine lv_istore_n (lv' := [(3, .int m3), (6, .int m6), (5, .int m5), (4, .int m4), (2, .int r1), (0, .ref (g.2.2.1 13)), (1, .int a0)]) hx hb dX12_boosts_162 rfl hl (by decide) rfl (fun ls hl => ?_)
                          obtain ⟨x16, e16⟩ : ∃ y : Int32, y = m4 + 1 := ⟨_, rfl⟩
                          refine lv_iinc (v := x16) (lv' := [(4, .int x16), (3, .int m3), (6, .int m6), (5, .int m5), (2, .int r1), (0, .ref (g.2.2.1 13)), (1, .int a0)]) hx hb dX12_boosts_163 hl (k := 3) rfl (by rw [e16]; rfl) (by decide) rfl (fun ls hl => ?_)
                          try have t16 : x16.toInt = m4.toInt + 1 := tadd e16 rfl kp1 (by omega)
                          refine lv_goto (tgt := 25) hx hb dX12_boosts_166 (by decide) ?_
                          have hWl : WB g A s.heap H locs ((hv J [100, 104, 146] [] (hv (hv (hv J [100, 104, 146] [] Gl3) [104] [] Gl11) [146] [] u13)), L, I, P, E, N) (sgM g) := by
                            rw [← ag_hvE (J := J) (R := [100, 104, 146]) (F := []) (ag_hv rfl rfl (ag_hv rfl rfl (ag_hv rfl rfl ag_rf)))]
                            exact hW
                          refine ih m3 x16 (hv (hv (hv J [100, 104, 146] [] Gl3) [104] [] Gl11) [146] [] u13) H locs ls ?_ ?_ ?_ hWl (lv_sub hl [0, 1, 4, 5, 6] rfl)
                          · show (2000000 - x16.toInt).toNat < n
                            omega
                          · show 0 ≤ x16.toInt
                            first | omega | exact hi | assumption
                          · show ∀ k : Nat, (∀ j : Nat, (j : Int) < (J 13 41).toInt → ¬ (J 125 j).toNatClampNeg = k) → Gl11 104 k = J 104 k
                            first | exact hf2 | exact hf3
                        · have c15 : ¬ m5.toInt = 0 := tne rfl kp0 c15
                          refine lv_iload hx hb dX12_boosts_156 (lv_at hl 2 rfl) ?_
                          refine lv_goto (tgt := 162) hx hb dX12_boosts_158 (by decide) ?_
                          refine lv_istore_n (lv' := [(3, .int m4), (6, .int m6), (5, .int m5), (4, .int m4), (2, .int r1), (0, .ref (g.2.2.1 13)), (1, .int a0)]) hx hb dX12_boosts_162 rfl hl (by decide) rfl (fun ls hl => ?_)
                          obtain ⟨x17, e17⟩ : ∃ y : Int32, y = m4 + 1 := ⟨_, rfl⟩
                          refine lv_iinc (v := x17) (lv' := [(4, .int x17), (3, .int m4), (6, .int m6), (5, .int m5), (2, .int r1), (0, .ref (g.2.2.1 13)), (1, .int a0)]) hx hb dX12_boosts_163 hl (k := 3) rfl (by rw [e17]; rfl) (by decide) rfl (fun ls hl => ?_)
                          try have t17 : x17.toInt = m4.toInt + 1 := tadd e17 rfl kp1 (by omega)
                          refine lv_goto (tgt := 25) hx hb dX12_boosts_166 (by decide) ?_
                          have hWl : WB g A s.heap H locs ((hv J [100, 104, 146] [] (hv (hv (hv J [100, 104, 146] [] Gl3) [104] [] Gl11) [146] [] u13)), L, I, P, E, N) (sgM g) := by
                            rw [← ag_hvE (J := J) (R := [100, 104, 146]) (F := []) (ag_hv rfl rfl (ag_hv rfl rfl (ag_hv rfl rfl ag_rf)))]
                            exact hW
                          refine ih m4 x17 (hv (hv (hv J [100, 104, 146] [] Gl3) [104] [] Gl11) [146] [] u13) H locs ls ?_ ?_ ?_ hWl (lv_sub hl [0, 1, 4, 5, 6] rfl)
                          · show (2000000 - x17.toInt).toNat < n
                            omega
                          · show 0 ≤ x17.toInt
                            first | omega | exact hi | assumption
                          · show ∀ k : Nat, (∀ j : Nat, (j : Int) < (J 13 41).toInt → ¬ (J 125 j).toNatClampNeg = k) → Gl11 104 k = J 104 k
                            first | exact hf2 | exact hf3
                      · have c14 : m6.toInt < (J 13 35).toInt := tnle rfl rfl c14
                        refine lv_iload hx hb dX12_boosts_132 (lv_at hl 1 rfl) ?_
                        refine lv_if_eq (tgt := 151) hx hb dX12_boosts_134 (by decide) (fun c18 => ?_) (fun c18 => ?_)
                        · have c18 : m5.toInt = 0 := teq rfl kp0 c18
                          refine lv_iload hx hb dX12_boosts_151 (lv_at hl 1 rfl) ?_
                          refine lv_if_eq (tgt := 161) hx hb dX12_boosts_153 (by decide) (fun c19 => ?_) (fun c19 => ?_)
                          · have c19 : m5.toInt = 0 := teq rfl kp0 c19
                            refine lv_iload_n hx hb dX12_boosts_161 rfl (lv_at hl 3 rfl) ?_
                            refine lv_istore_n (lv' := [(3, .int m3), (6, .int m6), (5, .int m5), (4, .int m4), (2, .int r1), (0, .ref (g.2.2.1 13)), (1, .int a0)]) hx hb dX12_boosts_162 rfl hl (by decide) rfl (fun ls hl => ?_)
                            obtain ⟨x20, e20⟩ : ∃ y : Int32, y = m4 + 1 := ⟨_, rfl⟩
                            refine lv_iinc (v := x20) (lv' := [(4, .int x20), (3, .int m3), (6, .int m6), (5, .int m5), (2, .int r1), (0, .ref (g.2.2.1 13)), (1, .int a0)]) hx hb dX12_boosts_163 hl (k := 3) rfl (by rw [e20]; rfl) (by decide) rfl (fun ls hl => ?_)
                            try have t20 : x20.toInt = m4.toInt + 1 := tadd e20 rfl kp1 (by omega)
                            refine lv_goto (tgt := 25) hx hb dX12_boosts_166 (by decide) ?_
                            have hWl : WB g A s.heap H locs ((hv J [100, 104, 146] [] (hv (hv (hv J [100, 104, 146] [] Gl3) [104] [] Gl11) [146] [] u13)), L, I, P, E, N) (sgM g) := by
                              rw [← ag_hvE (J := J) (R := [100, 104, 146]) (F := []) (ag_hv rfl rfl (ag_hv rfl rfl (ag_hv rfl rfl ag_rf)))]
                              exact hW
                            refine ih m3 x20 (hv (hv (hv J [100, 104, 146] [] Gl3) [104] [] Gl11) [146] [] u13) H locs ls ?_ ?_ ?_ hWl (lv_sub hl [0, 1, 4, 5, 6] rfl)
                            · show (2000000 - x20.toInt).toNat < n
                              omega
                            · show 0 ≤ x20.toInt
                              first | omega | exact hi | assumption
                            · show ∀ k : Nat, (∀ j : Nat, (j : Int) < (J 13 41).toInt → ¬ (J 125 j).toNatClampNeg = k) → Gl11 104 k = J 104 k
                              first | exact hf2 | exact hf3
                          · have c19 : ¬ m5.toInt = 0 := tne rfl kp0 c19
                            exfalso; omega
                        · have c18 : ¬ m5.toInt = 0 := tne rfl kp0 c18
                          refine lv_aload_n hx hb dX12_boosts_137 rfl (lv_at hl 5 rfl) ?_
                          refine lv_iload hx hb dX12_boosts_138 (lv_at hl 0 rfl) ?_
                          refine ci_ C hW (runV (x := (g.2.2.1 13)) (As := [.int m6]) (rest := []) (T := (((hv (hv (hv J [100, 104, 146] [] Gl3) [104] [] Gl11) [146] [] u13), L, I, P, E, N), sgM g)) C hW (c_X12_hearsNow_e l g (hv (hv (hv J [100, 104, 146] [] Gl3) [104] [] Gl11) [146] [] u13) L I P E N H.size m6 hwm (show 0 ≤ m6.toInt ∧ m6.toInt < (J 13 35).toInt from by omega)) mi_X12_hearsNow tw_1302 (recv_ (T := (((hv (hv (hv J [100, 104, 146] [] Gl3) [104] [] Gl11) [146] [] u13), L, I, P, E, N), sgM g)) C hW (mm_ rfl) rfl rfl) ⟨rfl, rfl, Nat.le_of_ble_eq_true rfl, Nat.le_of_ble_eq_true rfl⟩ rfl hl.1 rfl (Nat.le_of_ble_eq_true rfl) dX12_boosts_140 ⟨Nat.le_of_ble_eq_true rfl, Nat.le_of_ble_eq_true rfl⟩) (fun r21 u21 H locs hp21 hW => ?_)
                          have hf21_0 : (((r21.toInt : Int) = 1 ∧ (J 13 36).toInt ≤ (u13 146 (J 108 m6.toNatClampNeg).toNatClampNeg / J 109 m6.toNatClampNeg).toInt) ∨ ((r21.toInt : Int) = 0 ∧ (u13 146 (J 108 m6.toNatClampNeg).toNatClampNeg / J 109 m6.toNatClampNeg).toInt < (J 13 36).toInt)) := hp21
                          clear hp21
                          have hW : WB g A s.heap H locs ((hv (hv (hv J [100, 104, 146] [] Gl3) [104] [] Gl11) [146] [] u13), L, I, P, E, N) (sgM g) := hW
                          refine lv_istore (lv' := [(5, .int r21), (6, .int m6), (4, .int m4), (3, .int m3), (2, .int r1), (0, .ref (g.2.2.1 13)), (1, .int a0)]) hx hb dX12_boosts_143 hl (by decide) rfl (fun ls hl => ?_)
                          obtain ⟨x22, e22⟩ : ∃ y : Int32, y = m6 + 1 := ⟨_, rfl⟩
                          refine lv_iinc (v := x22) (lv' := [(6, .int x22), (5, .int r21), (4, .int m4), (3, .int m3), (2, .int r1), (0, .ref (g.2.2.1 13)), (1, .int a0)]) hx hb dX12_boosts_145 hl (k := 1) rfl (by rw [e22]; rfl) (by decide) rfl (fun ls hl => ?_)
                          try have t22 : x22.toInt = m6.toInt + 1 := tadd e22 rfl kp1 (by omega)
                          refine lv_goto (tgt := 123) hx hb dX12_boosts_148 (by decide) ?_
                          refine ih123 r21 x22 H locs ls ?_ ?_ hW (lv_sub hl [0, 1, 2, 3, 4, 5, 6] rfl)
                          · show (40 - x22.toInt).toNat < n123
                            omega
                          · show 0 ≤ x22.toInt
                            first | omega | exact hj | assumption
                  -- into the loop
                  refine loop123 ((40 - (0 : Int32).toInt).toNat + 1) 1 0 H locs ls ?_ ?_ hW (lv_sub hl [0, 1, 2, 3, 4, 5, 6] rfl)
                  · exact Nat.lt_succ_self _
                  · show 0 ≤ (0 : Int32).toInt
                    try rw [kp1]
                    try rw [kp0]
                    first | omega | exact hj | assumption
                · have c12 : m5.toInt < (J 13 41).toInt := tnle rfl rfl c12
                  refine lv_aload_n hx hb dX12_boosts_67 rfl (lv_at hl 4 rfl) ?_
                  refine rg_13_4 C hW (mm_ rfl) tw_1027 dX12_boosts_68 ?_
                  refine lv_aload_n hx hb dX12_boosts_71 rfl (lv_at hl 4 rfl) ?_
                  refine rg_13_25 C hW (mm_ rfl) tw_1048 dX12_boosts_72 ?_
                  refine lv_iload hx hb dX12_boosts_75 (lv_at hl 0 rfl) ?_
                  have hin : vp_in m5 9 := tin rfl (by omega)
                  refine ra_125 C hW (mm_ rfl) hin dX12_boosts_77 ?_
                  refine lv_topi (fun x23 (e23 : x23 = J 125 m5.toNatClampNeg) => ?_)
                  have q23 := hcN m5.toNatClampNeg
                  rw [← e23] at q23
                  have k23 := tcl m5
                  refine lv_iload hx hb dX12_boosts_78 (lv_at hl 1 rfl) ?_
                  refine lv_iload hx hb dX12_boosts_80 (lv_at hl 0 rfl) ?_
                  refine lv_ishr hx hb dX12_boosts_82 ?_
                  refine lv_topi (fun x24 (e24 : x24 = m4 >>> (m5 &&& 31)) => ?_)
                  refine lv_iconst (v := 1) hx hb dX12_boosts_83 (by decide) ?_
                  refine lv_iand hx hb dX12_boosts_84 ?_
                  refine lv_topi (fun x25 (e25 : x25 = x24 &&& 1) => ?_)
                  refine lv_iconst (v := 1) hx hb dX12_boosts_85 (by decide) ?_
                  refine lv_icmp_ne (tgt := 99) hx hb dX12_boosts_86 (by decide) (fun c26 => ?_) (fun c26 => ?_)
                  · have c26 : ¬ x25.toInt = 1 := tne rfl kp1 c26
                    refine lv_iconst (v := 0) hx hb dX12_boosts_99 (by decide) ?_
                    have hin : vp_in x23 20 := tin rfl (by omega)
                    refine rs_104 C hW (mm_ rfl) hin dX12_boosts_100 (fun H locs hW => ?_)
                    obtain ⟨x27, e27⟩ : ∃ y : Int32, y = m5 + 1 := ⟨_, rfl⟩
                    refine lv_iinc (v := x27) (lv' := [(5, .int x27), (4, .int m4), (3, .int m3), (2, .int r1), (0, .ref (g.2.2.1 13)), (1, .int a0)]) hx hb dX12_boosts_101 hl (k := 0) rfl (by rw [e27]; rfl) (by decide) rfl (fun ls hl => ?_)
                    try have t27 : x27.toInt = m5.toInt + 1 := tadd e27 rfl kp1 (by omega)
                    refine lv_goto (tgt := 58) hx hb dX12_boosts_104 (by decide) ?_
                    have hWl : WB g A s.heap H locs ((hv (hv J [100, 104, 146] [] Gl3) [104] [] (up2 (hv (hv J [100, 104, 146] [] Gl3) [104] [] Gl11) 104 x23.toNatClampNeg 0)), L, I, P, E, N) (sgM g) := by
                      rw [← ag_hvE (J := (hv J [100, 104, 146] [] Gl3)) (R := [104]) (F := []) (ag_up (Or.inl rfl) (ag_hv rfl rfl ag_rf))]
                      exact hW
                    refine ih58 x27 (up2 (hv (hv J [100, 104, 146] [] Gl3) [104] [] Gl11) 104 x23.toNatClampNeg 0) H locs ls ?_ ?_ ?_ hWl (lv_sub hl [0, 1, 2, 3, 4, 5] rfl)
                    · show (9 - x27.toInt).toNat < n58
                      omega
                    · show 0 ≤ x27.toInt
                      first | omega | exact hj | assumption
                    · show ∀ k : Nat, (∀ j : Nat, (j : Int) < (J 13 41).toInt → ¬ (J 125 j).toNatClampNeg = k) → (up2 Gl11 104 x23.toNatClampNeg 0) 104 k = J 104 k
                      (intro k hk; exact (up2_f _ _ _ (fun q => hk m5.toNatClampNeg (by have h8 := tcl m5; omega) (by rw [← e23]; exact q.symm))).trans (hf3 k hk))
                  · have c26 : x25.toInt = 1 := teq rfl kp1 c26
                    refine lv_aload_n hx hb dX12_boosts_89 rfl (lv_at hl 4 rfl) ?_
                    refine rg_13_26 C hW (mm_ rfl) tw_1049 dX12_boosts_90 ?_
                    refine lv_iload hx hb dX12_boosts_93 (lv_at hl 0 rfl) ?_
                    have hin : vp_in m5 9 := tin rfl (by omega)
                    refine ra_126 C hW (mm_ rfl) hin dX12_boosts_95 ?_
                    refine lv_topi (fun x28 (e28 : x28 = J 126 m5.toNatClampNeg) => ?_)
                    refine lv_goto (tgt := 100) hx hb dX12_boosts_96 (by decide) ?_
                    have hin : vp_in x23 20 := tin rfl (by omega)
                    refine rs_104 C hW (mm_ rfl) hin dX12_boosts_100 (fun H locs hW => ?_)
                    obtain ⟨x29, e29⟩ : ∃ y : Int32, y = m5 + 1 := ⟨_, rfl⟩
                    refine lv_iinc (v := x29) (lv' := [(5, .int x29), (4, .int m4), (3, .int m3), (2, .int r1), (0, .ref (g.2.2.1 13)), (1, .int a0)]) hx hb dX12_boosts_101 hl (k := 0) rfl (by rw [e29]; rfl) (by decide) rfl (fun ls hl => ?_)
                    try have t29 : x29.toInt = m5.toInt + 1 := tadd e29 rfl kp1 (by omega)
                    refine lv_goto (tgt := 58) hx hb dX12_boosts_104 (by decide) ?_
                    have hWl : WB g A s.heap H locs ((hv (hv J [100, 104, 146] [] Gl3) [104] [] (up2 (hv (hv J [100, 104, 146] [] Gl3) [104] [] Gl11) 104 x23.toNatClampNeg x28)), L, I, P, E, N) (sgM g) := by
                      rw [← ag_hvE (J := (hv J [100, 104, 146] [] Gl3)) (R := [104]) (F := []) (ag_up (Or.inl rfl) (ag_hv rfl rfl ag_rf))]
                      exact hW
                    refine ih58 x29 (up2 (hv (hv J [100, 104, 146] [] Gl3) [104] [] Gl11) 104 x23.toNatClampNeg x28) H locs ls ?_ ?_ ?_ hWl (lv_sub hl [0, 1, 2, 3, 4, 5] rfl)
                    · show (9 - x29.toInt).toNat < n58
                      omega
                    · show 0 ≤ x29.toInt
                      first | omega | exact hj | assumption
                    · show ∀ k : Nat, (∀ j : Nat, (j : Int) < (J 13 41).toInt → ¬ (J 125 j).toNatClampNeg = k) → (up2 Gl11 104 x23.toNatClampNeg x28) 104 k = J 104 k
                      (intro k hk; exact (up2_f _ _ _ (fun q => hk m5.toNatClampNeg (by have h8 := tcl m5; omega) (by rw [← e23]; exact q.symm))).trans (hf3 k hk))
            -- into the loop
            have hWl : WB g A s.heap H locs ((hv (hv J [100, 104, 146] [] Gl3) [104] [] (hv J [100, 104, 146] [] Gl3)), L, I, P, E, N) (sgM g) := by
              rw [← ag_hvE (J := (hv J [100, 104, 146] [] Gl3)) (R := [104]) (F := []) ag_rf]
              exact hW
            refine loop58 ((9 - (0 : Int32).toInt).toNat + 1) 0 (hv J [100, 104, 146] [] Gl3) H locs ls ?_ ?_ ?_ hWl (lv_sub hl [0, 1, 2, 3, 4, 5] rfl)
            · exact Nat.lt_succ_self _
            · show 0 ≤ (0 : Int32).toInt
              try rw [kp0]
              first | omega | exact hj | assumption
            · show ∀ k : Nat, (∀ j : Nat, (j : Int) < (J 13 41).toInt → ¬ (J 125 j).toNatClampNeg = k) → Gl3 104 k = J 104 k
              try rw [kp0]
              exact hf2
          · have c10 : 0 ≤ m3.toInt := tnlt rfl kp0 c10
            refine lv_iload hx hb dX12_boosts_40 (lv_at hl 0 rfl) ?_
            refine ci_ C hW (runS (As := [.int m4]) (rest := []) (T := (((hv J [100, 104, 146] [] Gl3), L, I, P, E, N), sgM g)) C hW (c_X12_bits l g (hv J [100, 104, 146] [] Gl3) L I P E N H.size m4 ) mi_X12_bits tw_1460 ⟨rfl, rfl, Nat.le_of_ble_eq_true rfl, Nat.le_of_ble_eq_true rfl⟩ rfl hl.1 rfl (Nat.le_of_ble_eq_true rfl) dX12_boosts_42 ⟨Nat.le_of_ble_eq_true rfl, Nat.le_of_ble_eq_true rfl⟩) (fun r30 u30 H locs hp30 hW => ?_)
            have hW : WB g A s.heap H locs ((hv J [100, 104, 146] [] Gl3), L, I, P, E, N) (sgM g) := hW
            refine lv_iload_n hx hb dX12_boosts_45 rfl (lv_at hl 1 rfl) ?_
            refine ci_ C hW (runS (As := [.int m3]) (rest := [.int r30]) (T := (((hv J [100, 104, 146] [] Gl3), L, I, P, E, N), sgM g)) C hW (c_X12_bits l g (hv J [100, 104, 146] [] Gl3) L I P E N H.size m3 ) mi_X12_bits tw_1460 ⟨rfl, rfl, Nat.le_of_ble_eq_true rfl, Nat.le_of_ble_eq_true rfl⟩ rfl hl.1 rfl (Nat.le_of_ble_eq_true rfl) dX12_boosts_46 ⟨Nat.le_of_ble_eq_true rfl, Nat.le_of_ble_eq_true rfl⟩) (fun r31 u31 H locs hp31 hW => ?_)
            have hW : WB g A s.heap H locs ((hv J [100, 104, 146] [] Gl3), L, I, P, E, N) (sgM g) := hW
            refine lv_icmp_lt (tgt := 55) hx hb dX12_boosts_49 (by decide) (fun c32 => ?_) (fun c32 => ?_)
            · have c32 : r30.toInt < r31.toInt := tlt rfl rfl c32
              refine lv_iconst (v := 0) hx hb dX12_boosts_55 (by decide) ?_
              refine lv_istore (lv' := [(5, .int 0), (4, .int m4), (3, .int m3), (2, .int r1), (0, .ref (g.2.2.1 13)), (1, .int a0)]) hx hb dX12_boosts_56 hl (by decide) rfl (fun ls hl => ?_)
              have loop58 : ∀ (n58 : Nat) (m5 : Int32) (Gl33 : Nat → Nat → Int32) (H : Heap) (locs : List Loc) (ls : Array Slot), (9 - m5.toInt).toNat < n58 → 0 ≤ m5.toInt → (∀ k : Nat, (∀ j : Nat, (j : Int) < (J 13 41).toInt → ¬ (J 125 j).toNatClampNeg = k) → Gl33 104 k = J 104 k) → WB g A s.heap H locs ((hv (hv J [100, 104, 146] [] Gl3) [104] [] Gl33), L, I, P, E, N) (sgM g) → lv_has ls 7 [(5, .int m5), (4, .int m4), (3, .int m3), (2, .int r1), (0, .ref (g.2.2.1 13)), (1, .int a0)] → W p l e (RM (4) 0 0) s m ([.ref (g.2.2.1 13), .int a0] : List Value).toArray below meth c H locs 0 0 (MQ below Q9 ([.ref (g.2.2.1 13), .int a0] : List Value).toArray s 0 0 A) (F0 m 58 ls []) := by
                intro n58
                induction n58 with
                | zero => intro m5 Gl33 H locs ls hmeas; exact absurd hmeas (Nat.not_lt_zero _)
                | succ n58 ih58 =>
                  intro m5 Gl33 H locs ls hmeas hj hf3 hW hl
                  refine lv_iload hx hb dX12_boosts_58 (lv_at hl 0 rfl) ?_
                  refine lv_aload_n hx hb dX12_boosts_60 rfl (lv_at hl 4 rfl) ?_
                  refine rg_13_41 C hW (mm_ rfl) tw_1064 dX12_boosts_61 ?_
                  refine lv_as (J 13 41) rfl ?_
                  refine lv_icmp_ge (tgt := 107) hx hb dX12_boosts_64 (by decide) (fun c34 => ?_) (fun c34 => ?_)
                  · have c34 : (J 13 41).toInt ≤ m5.toInt := tle rfl rfl c34
                    refine lv_aload_n hx hb dX12_boosts_107 rfl (lv_at hl 4 rfl) ?_
                    refine lv_iload_n hx hb dX12_boosts_108 rfl (lv_at hl 5 rfl) ?_
                    refine lv_aload_n hx hb dX12_boosts_109 rfl (lv_at hl 4 rfl) ?_
                    refine rg_13_33 C hW (mm_ rfl) tw_1056 dX12_boosts_110 ?_
                    refine lv_as (J 13 33) rfl ?_
                    refine lv_iconst (v := (-1)) hx hb dX12_boosts_113 (by decide) ?_
                    refine cv_ C hW (runV (x := (g.2.2.1 13)) (As := [.int a0, .int (J 13 33), .int (-1)]) (rest := []) (T := (((hv (hv J [100, 104, 146] [] Gl3) [104] [] Gl33), L, I, P, E, N), sgM g)) C hW (c_X12_sounds_e l g (hv (hv J [100, 104, 146] [] Gl3) [104] [] Gl33) L I P E N H.size a0 (J 13 33) (-1) hwm) mi_X12_sounds tw_1277 (recv_ (T := (((hv (hv J [100, 104, 146] [] Gl3) [104] [] Gl33), L, I, P, E, N), sgM g)) C hW (mm_ rfl) rfl rfl) ⟨rfl, rfl, Nat.le_of_ble_eq_true rfl, Nat.le_of_ble_eq_true rfl⟩ rfl hl.1 rfl (Nat.le_of_ble_eq_true rfl) dX12_boosts_114 ⟨Nat.le_of_ble_eq_true rfl, Nat.le_of_ble_eq_true rfl⟩) (fun u35 H locs hp35 hW => ?_)
                    have hf35_0 : (SND (u35 146) (J 101) (J 102) (J 103) (Gl33 104) (fun k => 0 ≤ (-1 : Int32).toInt ∧ CUTP (J 105) (J 106) (J 107) (J 13 34).toInt (-1 : Int32).toInt k) a0 (J 13 33) (J 13 32).toInt) := hp35
                    clear hp35
                    have hW : WB g A s.heap H locs ((hv (hv (hv J [100, 104, 146] [] Gl3) [104] [] Gl33) [146] [] u35), L, I, P, E, N) (sgM g) := hW
                    refine lv_iconst (v := 1) hx hb dX12_boosts_117 (by decide) ?_
                    refine lv_istore (lv' := [(5, .int 1), (4, .int m4), (3, .int m3), (2, .int r1), (0, .ref (g.2.2.1 13)), (1, .int a0)]) hx hb dX12_boosts_118 hl (by decide) rfl (fun ls hl => ?_)
                    refine lv_iconst (v := 0) hx hb dX12_boosts_120 (by decide) ?_
                    refine lv_istore (lv' := [(6, .int 0), (5, .int 1), (4, .int m4), (3, .int m3), (2, .int r1), (0, .ref (g.2.2.1 13)), (1, .int a0)]) hx hb dX12_boosts_121 hl (by decide) rfl (fun ls hl => ?_)
                    have loop123 : ∀ (n123 : Nat) (m5 : Int32) (m6 : Int32) (H : Heap) (locs : List Loc) (ls : Array Slot), (40 - m6.toInt).toNat < n123 → 0 ≤ m6.toInt → WB g A s.heap H locs ((hv (hv (hv J [100, 104, 146] [] Gl3) [104] [] Gl33) [146] [] u35), L, I, P, E, N) (sgM g) → lv_has ls 7 [(6, .int m6), (5, .int m5), (4, .int m4), (3, .int m3), (2, .int r1), (0, .ref (g.2.2.1 13)), (1, .int a0)] → W p l e (RM (4) 0 0) s m ([.ref (g.2.2.1 13), .int a0] : List Value).toArray below meth c H locs 0 0 (MQ below Q9 ([.ref (g.2.2.1 13), .int a0] : List Value).toArray s 0 0 A) (F0 m 123 ls []) := by
                      intro n123
                      induction n123 with
                      | zero => intro m5 m6 H locs ls hmeas; exact absurd hmeas (Nat.not_lt_zero _)
                      | succ n123 ih123 =>
                        intro m5 m6 H locs ls hmeas hj hW hl
                        refine lv_iload hx hb dX12_boosts_123 (lv_at hl 0 rfl) ?_
                        refine lv_aload_n hx hb dX12_boosts_125 rfl (lv_at hl 5 rfl) ?_
                        refine rg_13_35 C hW (mm_ rfl) tw_1058 dX12_boosts_126 ?_
                        refine lv_as (J 13 35) rfl ?_
                        refine lv_icmp_ge (tgt := 151) hx hb dX12_boosts_129 (by decide) (fun c36 => ?_) (fun c36 => ?_)
                        · have c36 : (J 13 35).toInt ≤ m6.toInt := tle rfl rfl c36
                          refine lv_iload hx hb dX12_boosts_151 (lv_at hl 1 rfl) ?_
                          refine lv_if_eq (tgt := 161) hx hb dX12_boosts_153 (by decide) (fun c37 => ?_) (fun c37 => ?_)
                          · have c37 : m5.toInt = 0 := teq rfl kp0 c37
                            refine lv_iload_n hx hb dX12_boosts_161 rfl (lv_at hl 3 rfl) ?_
                            refine lv_istore_n (lv' := [(3, .int m3), (6, .int m6), (5, .int m5), (4, .int m4), (2, .int r1), (0, .ref (g.2.2.1 13)), (1, .int a0)]) hx hb dX12_boosts_162 rfl hl (by decide) rfl (fun ls hl => ?_)
                            obtain ⟨x38, e38⟩ : ∃ y : Int32, y = m4 + 1 := ⟨_, rfl⟩
                            refine lv_iinc (v := x38) (lv' := [(4, .int x38), (3, .int m3), (6, .int m6), (5, .int m5), (2, .int r1), (0, .ref (g.2.2.1 13)), (1, .int a0)]) hx hb dX12_boosts_163 hl (k := 3) rfl (by rw [e38]; rfl) (by decide) rfl (fun ls hl => ?_)
                            try have t38 : x38.toInt = m4.toInt + 1 := tadd e38 rfl kp1 (by omega)
                            refine lv_goto (tgt := 25) hx hb dX12_boosts_166 (by decide) ?_
                            have hWl : WB g A s.heap H locs ((hv J [100, 104, 146] [] (hv (hv (hv J [100, 104, 146] [] Gl3) [104] [] Gl33) [146] [] u35)), L, I, P, E, N) (sgM g) := by
                              rw [← ag_hvE (J := J) (R := [100, 104, 146]) (F := []) (ag_hv rfl rfl (ag_hv rfl rfl (ag_hv rfl rfl ag_rf)))]
                              exact hW
                            refine ih m3 x38 (hv (hv (hv J [100, 104, 146] [] Gl3) [104] [] Gl33) [146] [] u35) H locs ls ?_ ?_ ?_ hWl (lv_sub hl [0, 1, 4, 5, 6] rfl)
                            · show (2000000 - x38.toInt).toNat < n
                              omega
                            · show 0 ≤ x38.toInt
                              first | omega | exact hi | assumption
                            · show ∀ k : Nat, (∀ j : Nat, (j : Int) < (J 13 41).toInt → ¬ (J 125 j).toNatClampNeg = k) → Gl33 104 k = J 104 k
                              first | exact hf2 | exact hf3
                          · have c37 : ¬ m5.toInt = 0 := tne rfl kp0 c37
                            refine lv_iload hx hb dX12_boosts_156 (lv_at hl 2 rfl) ?_
                            refine lv_goto (tgt := 162) hx hb dX12_boosts_158 (by decide) ?_
                            refine lv_istore_n (lv' := [(3, .int m4), (6, .int m6), (5, .int m5), (4, .int m4), (2, .int r1), (0, .ref (g.2.2.1 13)), (1, .int a0)]) hx hb dX12_boosts_162 rfl hl (by decide) rfl (fun ls hl => ?_)
                            obtain ⟨x39, e39⟩ : ∃ y : Int32, y = m4 + 1 := ⟨_, rfl⟩
                            refine lv_iinc (v := x39) (lv' := [(4, .int x39), (3, .int m4), (6, .int m6), (5, .int m5), (2, .int r1), (0, .ref (g.2.2.1 13)), (1, .int a0)]) hx hb dX12_boosts_163 hl (k := 3) rfl (by rw [e39]; rfl) (by decide) rfl (fun ls hl => ?_)
                            try have t39 : x39.toInt = m4.toInt + 1 := tadd e39 rfl kp1 (by omega)
                            refine lv_goto (tgt := 25) hx hb dX12_boosts_166 (by decide) ?_
                            have hWl : WB g A s.heap H locs ((hv J [100, 104, 146] [] (hv (hv (hv J [100, 104, 146] [] Gl3) [104] [] Gl33) [146] [] u35)), L, I, P, E, N) (sgM g) := by
                              rw [← ag_hvE (J := J) (R := [100, 104, 146]) (F := []) (ag_hv rfl rfl (ag_hv rfl rfl (ag_hv rfl rfl ag_rf)))]
                              exact hW
                            refine ih m4 x39 (hv (hv (hv J [100, 104, 146] [] Gl3) [104] [] Gl33) [146] [] u35) H locs ls ?_ ?_ ?_ hWl (lv_sub hl [0, 1, 4, 5, 6] rfl)
                            · show (2000000 - x39.toInt).toNat < n
                              omega
                            · show 0 ≤ x39.toInt
                              first | omega | exact hi | assumption
                            · show ∀ k : Nat, (∀ j : Nat, (j : Int) < (J 13 41).toInt → ¬ (J 125 j).toNatClampNeg = k) → Gl33 104 k = J 104 k
                              first | exact hf2 | exact hf3
                        · have c36 : m6.toInt < (J 13 35).toInt := tnle rfl rfl c36
                          refine lv_iload hx hb dX12_boosts_132 (lv_at hl 1 rfl) ?_
                          refine lv_if_eq (tgt := 151) hx hb dX12_boosts_134 (by decide) (fun c40 => ?_) (fun c40 => ?_)
                          · have c40 : m5.toInt = 0 := teq rfl kp0 c40
                            refine lv_iload hx hb dX12_boosts_151 (lv_at hl 1 rfl) ?_
                            refine lv_if_eq (tgt := 161) hx hb dX12_boosts_153 (by decide) (fun c41 => ?_) (fun c41 => ?_)
                            · have c41 : m5.toInt = 0 := teq rfl kp0 c41
                              refine lv_iload_n hx hb dX12_boosts_161 rfl (lv_at hl 3 rfl) ?_
                              refine lv_istore_n (lv' := [(3, .int m3), (6, .int m6), (5, .int m5), (4, .int m4), (2, .int r1), (0, .ref (g.2.2.1 13)), (1, .int a0)]) hx hb dX12_boosts_162 rfl hl (by decide) rfl (fun ls hl => ?_)
                              obtain ⟨x42, e42⟩ : ∃ y : Int32, y = m4 + 1 := ⟨_, rfl⟩
                              refine lv_iinc (v := x42) (lv' := [(4, .int x42), (3, .int m3), (6, .int m6), (5, .int m5), (2, .int r1), (0, .ref (g.2.2.1 13)), (1, .int a0)]) hx hb dX12_boosts_163 hl (k := 3) rfl (by rw [e42]; rfl) (by decide) rfl (fun ls hl => ?_)
                              try have t42 : x42.toInt = m4.toInt + 1 := tadd e42 rfl kp1 (by omega)
                              refine lv_goto (tgt := 25) hx hb dX12_boosts_166 (by decide) ?_
                              have hWl : WB g A s.heap H locs ((hv J [100, 104, 146] [] (hv (hv (hv J [100, 104, 146] [] Gl3) [104] [] Gl33) [146] [] u35)), L, I, P, E, N) (sgM g) := by
                                rw [← ag_hvE (J := J) (R := [100, 104, 146]) (F := []) (ag_hv rfl rfl (ag_hv rfl rfl (ag_hv rfl rfl ag_rf)))]
                                exact hW
                              refine ih m3 x42 (hv (hv (hv J [100, 104, 146] [] Gl3) [104] [] Gl33) [146] [] u35) H locs ls ?_ ?_ ?_ hWl (lv_sub hl [0, 1, 4, 5, 6] rfl)
                              · show (2000000 - x42.toInt).toNat < n
                                omega
                              · show 0 ≤ x42.toInt
                                first | omega | exact hi | assumption
                              · show ∀ k : Nat, (∀ j : Nat, (j : Int) < (J 13 41).toInt → ¬ (J 125 j).toNatClampNeg = k) → Gl33 104 k = J 104 k
                                first | exact hf2 | exact hf3
                            · have c41 : ¬ m5.toInt = 0 := tne rfl kp0 c41
                              exfalso; omega
                          · have c40 : ¬ m5.toInt = 0 := tne rfl kp0 c40
                            refine lv_aload_n hx hb dX12_boosts_137 rfl (lv_at hl 5 rfl) ?_
                            refine lv_iload hx hb dX12_boosts_138 (lv_at hl 0 rfl) ?_
                            refine ci_ C hW (runV (x := (g.2.2.1 13)) (As := [.int m6]) (rest := []) (T := (((hv (hv (hv J [100, 104, 146] [] Gl3) [104] [] Gl33) [146] [] u35), L, I, P, E, N), sgM g)) C hW (c_X12_hearsNow_e l g (hv (hv (hv J [100, 104, 146] [] Gl3) [104] [] Gl33) [146] [] u35) L I P E N H.size m6 hwm (show 0 ≤ m6.toInt ∧ m6.toInt < (J 13 35).toInt from by omega)) mi_X12_hearsNow tw_1302 (recv_ (T := (((hv (hv (hv J [100, 104, 146] [] Gl3) [104] [] Gl33) [146] [] u35), L, I, P, E, N), sgM g)) C hW (mm_ rfl) rfl rfl) ⟨rfl, rfl, Nat.le_of_ble_eq_true rfl, Nat.le_of_ble_eq_true rfl⟩ rfl hl.1 rfl (Nat.le_of_ble_eq_true rfl) dX12_boosts_140 ⟨Nat.le_of_ble_eq_true rfl, Nat.le_of_ble_eq_true rfl⟩) (fun r43 u43 H locs hp43 hW => ?_)
                            have hf43_0 : (((r43.toInt : Int) = 1 ∧ (J 13 36).toInt ≤ (u35 146 (J 108 m6.toNatClampNeg).toNatClampNeg / J 109 m6.toNatClampNeg).toInt) ∨ ((r43.toInt : Int) = 0 ∧ (u35 146 (J 108 m6.toNatClampNeg).toNatClampNeg / J 109 m6.toNatClampNeg).toInt < (J 13 36).toInt)) := hp43
                            clear hp43
                            have hW : WB g A s.heap H locs ((hv (hv (hv J [100, 104, 146] [] Gl3) [104] [] Gl33) [146] [] u35), L, I, P, E, N) (sgM g) := hW
                            refine lv_istore (lv' := [(5, .int r43), (6, .int m6), (4, .int m4), (3, .int m3), (2, .int r1), (0, .ref (g.2.2.1 13)), (1, .int a0)]) hx hb dX12_boosts_143 hl (by decide) rfl (fun ls hl => ?_)
                            obtain ⟨x44, e44⟩ : ∃ y : Int32, y = m6 + 1 := ⟨_, rfl⟩
                            refine lv_iinc (v := x44) (lv' := [(6, .int x44), (5, .int r43), (4, .int m4), (3, .int m3), (2, .int r1), (0, .ref (g.2.2.1 13)), (1, .int a0)]) hx hb dX12_boosts_145 hl (k := 1) rfl (by rw [e44]; rfl) (by decide) rfl (fun ls hl => ?_)
                            try have t44 : x44.toInt = m6.toInt + 1 := tadd e44 rfl kp1 (by omega)
                            refine lv_goto (tgt := 123) hx hb dX12_boosts_148 (by decide) ?_
                            refine ih123 r43 x44 H locs ls ?_ ?_ hW (lv_sub hl [0, 1, 2, 3, 4, 5, 6] rfl)
                            · show (40 - x44.toInt).toNat < n123
                              omega
                            · show 0 ≤ x44.toInt
                              first | omega | exact hj | assumption
                    -- into the loop
                    refine loop123 ((40 - (0 : Int32).toInt).toNat + 1) 1 0 H locs ls ?_ ?_ hW (lv_sub hl [0, 1, 2, 3, 4, 5, 6] rfl)
                    · exact Nat.lt_succ_self _
                    · show 0 ≤ (0 : Int32).toInt
                      try rw [kp1]
                      try rw [kp0]
                      first | omega | exact hj | assumption
                  · have c34 : m5.toInt < (J 13 41).toInt := tnle rfl rfl c34
                    refine lv_aload_n hx hb dX12_boosts_67 rfl (lv_at hl 4 rfl) ?_
                    refine rg_13_4 C hW (mm_ rfl) tw_1027 dX12_boosts_68 ?_
                    refine lv_aload_n hx hb dX12_boosts_71 rfl (lv_at hl 4 rfl) ?_
                    refine rg_13_25 C hW (mm_ rfl) tw_1048 dX12_boosts_72 ?_
                    refine lv_iload hx hb dX12_boosts_75 (lv_at hl 0 rfl) ?_
                    have hin : vp_in m5 9 := tin rfl (by omega)
                    refine ra_125 C hW (mm_ rfl) hin dX12_boosts_77 ?_
                    refine lv_topi (fun x45 (e45 : x45 = J 125 m5.toNatClampNeg) => ?_)
                    have q45 := hcN m5.toNatClampNeg
                    rw [← e45] at q45
                    have k45 := tcl m5
                    refine lv_iload hx hb dX12_boosts_78 (lv_at hl 1 rfl) ?_
                    refine lv_iload hx hb dX12_boosts_80 (lv_at hl 0 rfl) ?_
                    refine lv_ishr hx hb dX12_boosts_82 ?_
                    refine lv_topi (fun x46 (e46 : x46 = m4 >>> (m5 &&& 31)) => ?_)
                    refine lv_iconst (v := 1) hx hb dX12_boosts_83 (by decide) ?_
                    refine lv_iand hx hb dX12_boosts_84 ?_
                    refine lv_topi (fun x47 (e47 : x47 = x46 &&& 1) => ?_)
                    refine lv_iconst (v := 1) hx hb dX12_boosts_85 (by decide) ?_
                    refine lv_icmp_ne (tgt := 99) hx hb dX12_boosts_86 (by decide) (fun c48 => ?_) (fun c48 => ?_)
                    · have c48 : ¬ x47.toInt = 1 := tne rfl kp1 c48
                      refine lv_iconst (v := 0) hx hb dX12_boosts_99 (by decide) ?_
                      have hin : vp_in x45 20 := tin rfl (by omega)
                      refine rs_104 C hW (mm_ rfl) hin dX12_boosts_100 (fun H locs hW => ?_)
                      obtain ⟨x49, e49⟩ : ∃ y : Int32, y = m5 + 1 := ⟨_, rfl⟩
                      refine lv_iinc (v := x49) (lv' := [(5, .int x49), (4, .int m4), (3, .int m3), (2, .int r1), (0, .ref (g.2.2.1 13)), (1, .int a0)]) hx hb dX12_boosts_101 hl (k := 0) rfl (by rw [e49]; rfl) (by decide) rfl (fun ls hl => ?_)
                      try have t49 : x49.toInt = m5.toInt + 1 := tadd e49 rfl kp1 (by omega)
                      refine lv_goto (tgt := 58) hx hb dX12_boosts_104 (by decide) ?_
                      have hWl : WB g A s.heap H locs ((hv (hv J [100, 104, 146] [] Gl3) [104] [] (up2 (hv (hv J [100, 104, 146] [] Gl3) [104] [] Gl33) 104 x45.toNatClampNeg 0)), L, I, P, E, N) (sgM g) := by
                        rw [← ag_hvE (J := (hv J [100, 104, 146] [] Gl3)) (R := [104]) (F := []) (ag_up (Or.inl rfl) (ag_hv rfl rfl ag_rf))]
                        exact hW
                      refine ih58 x49 (up2 (hv (hv J [100, 104, 146] [] Gl3) [104] [] Gl33) 104 x45.toNatClampNeg 0) H locs ls ?_ ?_ ?_ hWl (lv_sub hl [0, 1, 2, 3, 4, 5] rfl)
                      · show (9 - x49.toInt).toNat < n58
                        omega
                      · show 0 ≤ x49.toInt
                        first | omega | exact hj | assumption
                      · show ∀ k : Nat, (∀ j : Nat, (j : Int) < (J 13 41).toInt → ¬ (J 125 j).toNatClampNeg = k) → (up2 Gl33 104 x45.toNatClampNeg 0) 104 k = J 104 k
                        (intro k hk; exact (up2_f _ _ _ (fun q => hk m5.toNatClampNeg (by have h8 := tcl m5; omega) (by rw [← e45]; exact q.symm))).trans (hf3 k hk))
                    · have c48 : x47.toInt = 1 := teq rfl kp1 c48
                      refine lv_aload_n hx hb dX12_boosts_89 rfl (lv_at hl 4 rfl) ?_
                      refine rg_13_26 C hW (mm_ rfl) tw_1049 dX12_boosts_90 ?_
                      refine lv_iload hx hb dX12_boosts_93 (lv_at hl 0 rfl) ?_
                      have hin : vp_in m5 9 := tin rfl (by omega)
                      refine ra_126 C hW (mm_ rfl) hin dX12_boosts_95 ?_
                      refine lv_topi (fun x50 (e50 : x50 = J 126 m5.toNatClampNeg) => ?_)
                      refine lv_goto (tgt := 100) hx hb dX12_boosts_96 (by decide) ?_
                      have hin : vp_in x45 20 := tin rfl (by omega)
                      refine rs_104 C hW (mm_ rfl) hin dX12_boosts_100 (fun H locs hW => ?_)
                      obtain ⟨x51, e51⟩ : ∃ y : Int32, y = m5 + 1 := ⟨_, rfl⟩
                      refine lv_iinc (v := x51) (lv' := [(5, .int x51), (4, .int m4), (3, .int m3), (2, .int r1), (0, .ref (g.2.2.1 13)), (1, .int a0)]) hx hb dX12_boosts_101 hl (k := 0) rfl (by rw [e51]; rfl) (by decide) rfl (fun ls hl => ?_)
                      try have t51 : x51.toInt = m5.toInt + 1 := tadd e51 rfl kp1 (by omega)
                      refine lv_goto (tgt := 58) hx hb dX12_boosts_104 (by decide) ?_
                      have hWl : WB g A s.heap H locs ((hv (hv J [100, 104, 146] [] Gl3) [104] [] (up2 (hv (hv J [100, 104, 146] [] Gl3) [104] [] Gl33) 104 x45.toNatClampNeg x50)), L, I, P, E, N) (sgM g) := by
                        rw [← ag_hvE (J := (hv J [100, 104, 146] [] Gl3)) (R := [104]) (F := []) (ag_up (Or.inl rfl) (ag_hv rfl rfl ag_rf))]
                        exact hW
                      refine ih58 x51 (up2 (hv (hv J [100, 104, 146] [] Gl3) [104] [] Gl33) 104 x45.toNatClampNeg x50) H locs ls ?_ ?_ ?_ hWl (lv_sub hl [0, 1, 2, 3, 4, 5] rfl)
                      · show (9 - x51.toInt).toNat < n58
                        omega
                      · show 0 ≤ x51.toInt
                        first | omega | exact hj | assumption
                      · show ∀ k : Nat, (∀ j : Nat, (j : Int) < (J 13 41).toInt → ¬ (J 125 j).toNatClampNeg = k) → (up2 Gl33 104 x45.toNatClampNeg x50) 104 k = J 104 k
                        (intro k hk; exact (up2_f _ _ _ (fun q => hk m5.toNatClampNeg (by have h8 := tcl m5; omega) (by rw [← e45]; exact q.symm))).trans (hf3 k hk))
              -- into the loop
              have hWl : WB g A s.heap H locs ((hv (hv J [100, 104, 146] [] Gl3) [104] [] (hv J [100, 104, 146] [] Gl3)), L, I, P, E, N) (sgM g) := by
                rw [← ag_hvE (J := (hv J [100, 104, 146] [] Gl3)) (R := [104]) (F := []) ag_rf]
                exact hW
              refine loop58 ((9 - (0 : Int32).toInt).toNat + 1) 0 (hv J [100, 104, 146] [] Gl3) H locs ls ?_ ?_ ?_ hWl (lv_sub hl [0, 1, 2, 3, 4, 5] rfl)
              · exact Nat.lt_succ_self _
              · show 0 ≤ (0 : Int32).toInt
                try rw [kp0]
                first | omega | exact hj | assumption
              · show ∀ k : Nat, (∀ j : Nat, (j : Int) < (J 13 41).toInt → ¬ (J 125 j).toNatClampNeg = k) → Gl3 104 k = J 104 k
                try rw [kp0]
                exact hf2
            · have c32 : r31.toInt ≤ r30.toInt := tnlt rfl rfl c32
              refine lv_goto (tgt := 163) hx hb dX12_boosts_52 (by decide) ?_
              obtain ⟨x52, e52⟩ : ∃ y : Int32, y = m4 + 1 := ⟨_, rfl⟩
              refine lv_iinc (v := x52) (lv' := [(4, .int x52), (3, .int m3), (2, .int r1), (0, .ref (g.2.2.1 13)), (1, .int a0)]) hx hb dX12_boosts_163 hl (k := 0) rfl (by rw [e52]; rfl) (by decide) rfl (fun ls hl => ?_)
              try have t52 : x52.toInt = m4.toInt + 1 := tadd e52 rfl kp1 (by omega)
              refine lv_goto (tgt := 25) hx hb dX12_boosts_166 (by decide) ?_
              have hWl : WB g A s.heap H locs ((hv J [100, 104, 146] [] (hv J [100, 104, 146] [] Gl3)), L, I, P, E, N) (sgM g) := by
                rw [← ag_hvE (J := J) (R := [100, 104, 146]) (F := []) (ag_hv rfl rfl ag_rf)]
                exact hW
              refine ih m3 x52 (hv J [100, 104, 146] [] Gl3) H locs ls ?_ ?_ ?_ hWl (lv_sub hl [0, 1, 2, 3, 4] rfl)
              · show (2000000 - x52.toInt).toNat < n
                omega
              · show 0 ≤ x52.toInt
                first | omega | exact hi | assumption
              · show ∀ k : Nat, (∀ j : Nat, (j : Int) < (J 13 41).toInt → ¬ (J 125 j).toNatClampNeg = k) → Gl3 104 k = J 104 k
                first | exact hf2 | exact hf3
    -- into the loop
    have hWl : WB g A s.heap H locs ((hv J [100, 104, 146] [] J), L, I, P, E, N) (sgM g) := by
      rw [← ag_hvE (J := J) (R := [100, 104, 146]) (F := []) ag_rf]
      exact hW
    refine loop25 ((2000000 - (0 : Int32).toInt).toNat + 1) (-9) 0 J H locs ls ?_ ?_ ?_ hWl (lv_sub hl [0, 1, 2, 3, 4] rfl)
    · exact Nat.lt_succ_self _
    · show 0 ≤ (0 : Int32).toInt
      try rw [kn9]
      try rw [kp0]
      first | omega | exact hi | assumption
    · show ∀ k : Nat, (∀ j : Nat, (j : Int) < (J 13 41).toInt → ¬ (J 125 j).toNatClampNeg = k) → J 104 k = J 104 k
      try rw [kn9]
      try rw [kp0]
      exact fun _ _ => rfl
  · have c2 : ¬ r1.toInt = 0 := tne rfl kp0 c2
    refine lv_aload_n hx hb dX12_boosts_13 rfl (lv_at hl 1 rfl) ?_
    refine lv_iload_n hx hb dX12_boosts_14 rfl (lv_at hl 0 rfl) ?_
    refine ci_ C hW (runV (x := (g.2.2.1 13)) (As := [.int r1]) (rest := []) (T := ((J, L, I, P, E, N), sgM g)) C hW (c_X12_refuse l g J L I P E N H.size r1 (show -6 ≤ r1.toInt ∧ r1.toInt ≤ -1 from by omega)) mi_X12_refuse tw_1239 (recv_ (T := ((J, L, I, P, E, N), sgM g)) C hW (mm_ rfl) rfl rfl) ⟨rfl, rfl, Nat.le_of_ble_eq_true rfl, Nat.le_of_ble_eq_true rfl⟩ rfl hl.1 rfl (Nat.le_of_ble_eq_true rfl) dX12_boosts_15 ⟨Nat.le_of_ble_eq_true rfl, Nat.le_of_ble_eq_true rfl⟩) (fun r53 u53 H locs hp53 hW => ?_)
    have hc53 : ((r53 = r1)) := hp53
    clear hp53
    have hr53 : r53.toInt = (r1).toInt := by rw [hc53]
    have hW : WB g A s.heap H locs ((hv J [100] [] u53), L, I, P, E, N) (sgM g) := hW
    have hWr : WB g A s.heap H locs (hv J [100, 104, 146] [] (hv J [100] [] u53), L, I, P, E, N) (sgM g) := by
      rw [← ag_hvE (J := J) (R := [100, 104, 146]) (F := []) (ag_hv rfl rfl ag_rf)]
      exact hW
    subst hQ9
    exact end_i C hr hlocks (hv J [100] [] u53) hWr (show (∀ k : Nat, J 104 k = 0) → ∀ k : Nat, J 104 k = 0 from by first | exact fun h => h | exact fun h k => (by by_cases q : ∃ j : Nat, (j : Int) < (J 13 41).toInt ∧ (J 125 j).toNatClampNeg = k; obtain ⟨j, q1, q2⟩ := q; rw [← q2]; exact hz4 j (by omega); exact (hf4 k (fun j h1 h2 => q ⟨j, h1, h2⟩)).trans (h k))) dX12_boosts_18
