set_option maxHeartbeats 4000000 in
set_option maxRecDepth 100000 in
theorem c_X12_cut_e (l : Launch) (g : gG) (J : Nat → Nat → Int32) (L : Nat → Nat → Int64) (I : Nat → Nat → Nat → Int32) (P : Nat → Nat → Nat → Option Nat) (E : Nat → Option Nat) (N : Nat → Nat) (sz : Nat) (a0 : Int32) (a1 : Int32) (a2 : Int32) (hwm : WM J) : Met l yX12_cut (WS yX12_cut cX12_cut 4 (some .int)) (RM (3) 0 0) (PC g [.ref (g.2.2.1 13), .int a0, .int a1, .int a2] ((J, L, I, P, E, N), sgM g) sz) (va_Qi (fun (r : Int32) (u : (Nat → Nat → Int32)) => WM (hv J [100, 105, 106, 107] [(13, 34)] u) ∧ ((r.toInt = (-1) ∧ (¬ (1 ≤ a0.toInt ∧ a0.toInt < (J 13 32).toInt)) ∧ u 13 34 = J 13 34 ∧ u 105 = J 105 ∧ u 106 = J 106 ∧ u 107 = J 107) ∨ (r.toInt = (-4) ∧ (1 ≤ a0.toInt ∧ a0.toInt < (J 13 32).toInt ∧ (a1.toInt < (J 13 31).toInt ∨ a2.toInt < a1.toInt)) ∧ u 13 34 = J 13 34 ∧ u 105 = J 105 ∧ u 106 = J 106 ∧ u 107 = J 107) ∨ (r.toInt = (-6) ∧ (1 ≤ a0.toInt ∧ a0.toInt < (J 13 32).toInt ∧ (J 13 31).toInt ≤ a1.toInt ∧ a1.toInt ≤ a2.toInt ∧ (9999 < a2.toInt ∨ (J 13 34).toInt = 40)) ∧ u 13 34 = J 13 34 ∧ u 105 = J 105 ∧ u 106 = J 106 ∧ u 107 = J 107) ∨ (r.toInt = (J 13 34).toInt + 1 ∧ (1 ≤ a0.toInt ∧ a0.toInt < (J 13 32).toInt ∧ (J 13 31).toInt ≤ a1.toInt ∧ a1.toInt ≤ a2.toInt ∧ a2.toInt ≤ 9999 ∧ (J 13 34).toInt ≤ 39) ∧ (u 13 34).toInt = (J 13 34).toInt + 1 ∧ u 105 = up2 J 105 (J 13 34).toNatClampNeg a0 105 ∧ u 106 = up2 J 106 (J 13 34).toNatClampNeg a1 106 ∧ u 107 = up2 J 107 (J 13 34).toNatClampNeg a2 107))) (fun u t => at_ g (FR g ((J, L, I, P, E, N), sgM g) sz) ((hv J [100, 105, 106, 107] [(13, 34)] u, L, I, P, E, N), sgM g) t) (FR g ((J, L, I, P, E, N), sgM g) sz)) 0 0 (FR g ((J, L, I, P, E, N), sgM g) sz) := by
  refine ent (by decide +kernel) (Nat.le_of_ble_eq_true rfl) ?_
  intro p e s m below meth c ls hsz C hW hr hlocks hname hl
  generalize FR g ((J, L, I, P, E, N), sgM g) sz = A at C hW ⊢
  generalize hQ9 : (va_Qi (fun (r : Int32) (u : (Nat → Nat → Int32)) => WM (hv J [100, 105, 106, 107] [(13, 34)] u) ∧ ((r.toInt = (-1) ∧ (¬ (1 ≤ a0.toInt ∧ a0.toInt < (J 13 32).toInt)) ∧ u 13 34 = J 13 34 ∧ u 105 = J 105 ∧ u 106 = J 106 ∧ u 107 = J 107) ∨ (r.toInt = (-4) ∧ (1 ≤ a0.toInt ∧ a0.toInt < (J 13 32).toInt ∧ (a1.toInt < (J 13 31).toInt ∨ a2.toInt < a1.toInt)) ∧ u 13 34 = J 13 34 ∧ u 105 = J 105 ∧ u 106 = J 106 ∧ u 107 = J 107) ∨ (r.toInt = (-6) ∧ (1 ≤ a0.toInt ∧ a0.toInt < (J 13 32).toInt ∧ (J 13 31).toInt ≤ a1.toInt ∧ a1.toInt ≤ a2.toInt ∧ (9999 < a2.toInt ∨ (J 13 34).toInt = 40)) ∧ u 13 34 = J 13 34 ∧ u 105 = J 105 ∧ u 106 = J 106 ∧ u 107 = J 107) ∨ (r.toInt = (J 13 34).toInt + 1 ∧ (1 ≤ a0.toInt ∧ a0.toInt < (J 13 32).toInt ∧ (J 13 31).toInt ≤ a1.toInt ∧ a1.toInt ≤ a2.toInt ∧ a2.toInt ≤ 9999 ∧ (J 13 34).toInt ≤ 39) ∧ (u 13 34).toInt = (J 13 34).toInt + 1 ∧ u 105 = up2 J 105 (J 13 34).toNatClampNeg a0 105 ∧ u 106 = up2 J 106 (J 13 34).toNatClampNeg a1 106 ∧ u 107 = up2 J 107 (J 13 34).toNatClampNeg a2 107))) (fun u t => at_ g A ((hv J [100, 105, 106, 107] [(13, 34)] u, L, I, P, E, N), sgM g) t) A) = Q9
  have hx := C.1.1
  have hb := C.1.2.1
  have hts := C.1.2.2.2.2
  have hW : WB g A s.heap s.heap [] (J, L, I, P, E, N) (sgM g) := hW
  have hl : lv_has ls 4 [(0, .ref (g.2.2.1 13)), (1, .int a0), (2, .int a1), (3, .int a2)] := hl
  obtain ⟨H, hH⟩ : ∃ H : Heap, H = s.heap := ⟨_, rfl⟩
  obtain ⟨locs, hlocs⟩ : ∃ q : List Loc, q = [] := ⟨_, rfl⟩
  have hW : WB g A s.heap H locs (J, L, I, P, E, N) (sgM g) := by rw [hH, hlocs]; exact hW
  obtain ⟨⟨hnd1, hnd2, hon, hhm1, hhm2, hhN, hcu1, hcu2, hco1, hco2, hcN⟩, ⟨hrd1, hrd2⟩, ⟨hnw1, hnw2, hns1, hns2, hof⟩, ⟨htm1, htm2, hts_⟩, ⟨had1, had2, hrw1, hrw2, htp1, htp2⟩⟩ := id hwm
  refine start_ hH hlocs ?_
  refine lv_aload_n hx hb dX12_cut_0 rfl (lv_at hl 0 rfl) ?_
  refine lv_iload_n hx hb dX12_cut_1 rfl (lv_at hl 1 rfl) ?_
  refine ci_ C hW (runV (x := (g.2.2.1 13)) (As := [.int a0]) (rest := []) (T := ((J, L, I, P, E, N), sgM g)) C hW (c_X12_isNode l g J L I P E N H.size a0 hwm) mi_X12_isNode tw_1251 (recv_ (T := ((J, L, I, P, E, N), sgM g)) C hW (mm_ rfl) rfl rfl) ⟨rfl, rfl, Nat.le_of_ble_eq_true rfl, Nat.le_of_ble_eq_true rfl⟩ rfl hl.1 rfl (Nat.le_of_ble_eq_true rfl) dX12_cut_2 ⟨Nat.le_of_ble_eq_true rfl, Nat.le_of_ble_eq_true rfl⟩) (fun r1 u1 H locs hp1 hW => ?_)
  have hc1 : ((r1.toInt = 1 ∧ (0 ≤ a0.toInt ∧ a0.toInt < (J 13 32).toInt)) ∨ (r1.toInt = 0 ∧ (¬ (0 ≤ a0.toInt ∧ a0.toInt < (J 13 32).toInt)))) := hp1
  clear hp1
  have hW : WB g A s.heap H locs (J, L, I, P, E, N) (sgM g) := hW
  refine lv_if_eq (tgt := 12) hx hb dX12_cut_5 (by decide) (fun c2 => ?_) (fun c2 => ?_)
  · have c2 : r1.toInt = 0 := teq rfl kp0 c2
    refine lv_aload_n hx hb dX12_cut_12 rfl (lv_at hl 0 rfl) ?_
    refine lv_iconst (v := (-1)) hx hb dX12_cut_13 (by decide) ?_
    refine ci_ C hW (runV (x := (g.2.2.1 13)) (As := [.int (-1)]) (rest := []) (T := ((J, L, I, P, E, N), sgM g)) C hW (c_X12_refuse l g J L I P E N H.size (-1) (show -6 ≤ (-1 : Int32).toInt ∧ (-1 : Int32).toInt ≤ -1 from by (try simp only [kn1]); omega)) mi_X12_refuse tw_1239 (recv_ (T := ((J, L, I, P, E, N), sgM g)) C hW (mm_ rfl) rfl rfl) ⟨rfl, rfl, Nat.le_of_ble_eq_true rfl, Nat.le_of_ble_eq_true rfl⟩ rfl hl.1 rfl (Nat.le_of_ble_eq_true rfl) dX12_cut_14 ⟨Nat.le_of_ble_eq_true rfl, Nat.le_of_ble_eq_true rfl⟩) (fun r3 u3 H locs hp3 hW => ?_)
    have hc3 : ((r3 = (-1))) := hp3
    clear hp3
    have hr3 : r3.toInt = (-1) := by rw [hc3]; exact kn1
    have hW : WB g A s.heap H locs ((hv J [100] [] u3), L, I, P, E, N) (sgM g) := hW
    have hWr : WB g A s.heap H locs (hv J [100, 105, 106, 107] [(13, 34)] (hv J [100] [] u3), L, I, P, E, N) (sgM g) := by
      rw [← ag_hvE (J := J) (R := [100, 105, 106, 107]) (F := [(13, 34)]) (ag_hv rfl rfl ag_rf)]
      exact hW
    have hwmr : WM (hv J [100] [] u3) := by exact hwm
    have hwmr : WM (hv J [100, 105, 106, 107] [(13, 34)] (hv J [100] [] u3)) := by
      rw [← ag_hvE (J := J) (R := [100, 105, 106, 107]) (F := [(13, 34)]) (ag_hv rfl rfl ag_rf)]; exact hwmr
    subst hQ9
    exact end_i C hr hlocks (hv J [100] [] u3) hWr ⟨hwmr, by first | exact Or.inl ⟨by omega, by omega, show J 13 34 = J 13 34 from by first | rfl | assumption, show J 105 = J 105 from by first | rfl | assumption, show J 106 = J 106 from by first | rfl | assumption, show J 107 = J 107 from by first | rfl | assumption⟩ | exact Or.inr (Or.inl ⟨by omega, by omega, show J 13 34 = J 13 34 from by first | rfl | assumption, show J 105 = J 105 from by first | rfl | assumption, show J 106 = J 106 from by first | rfl | assumption, show J 107 = J 107 from by first | rfl | assumption⟩) | exact Or.inr (Or.inr (Or.inl ⟨by omega, by omega, show J 13 34 = J 13 34 from by first | rfl | assumption, show J 105 = J 105 from by first | rfl | assumption, show J 106 = J 106 from by first | rfl | assumption, show J 107 = J 107 from by first | rfl | assumption⟩)) | exact Or.inr (Or.inr (Or.inr (⟨by omega, by omega, show (J 13 34).toInt = (J 13 34).toInt + 1 from by first | rfl | omega, show J 105 = up2 J 105 (J 13 34).toNatClampNeg a0 105 from by first | rfl | omega, show J 106 = up2 J 106 (J 13 34).toNatClampNeg a1 106 from by first | rfl | omega, show J 107 = up2 J 107 (J 13 34).toNatClampNeg a2 107 from by first | rfl | omega⟩))) | (rcases hc1 with qhc1 | qhc1 <;> first | exact Or.inl ⟨by omega, by omega, show J 13 34 = J 13 34 from by first | rfl | assumption, show J 105 = J 105 from by first | rfl | assumption, show J 106 = J 106 from by first | rfl | assumption, show J 107 = J 107 from by first | rfl | assumption⟩ | exact Or.inr (Or.inl ⟨by omega, by omega, show J 13 34 = J 13 34 from by first | rfl | assumption, show J 105 = J 105 from by first | rfl | assumption, show J 106 = J 106 from by first | rfl | assumption, show J 107 = J 107 from by first | rfl | assumption⟩) | exact Or.inr (Or.inr (Or.inl ⟨by omega, by omega, show J 13 34 = J 13 34 from by first | rfl | assumption, show J 105 = J 105 from by first | rfl | assumption, show J 106 = J 106 from by first | rfl | assumption, show J 107 = J 107 from by first | rfl | assumption⟩)) | exact Or.inr (Or.inr (Or.inr (⟨by omega, by omega, show (J 13 34).toInt = (J 13 34).toInt + 1 from by first | rfl | omega, show J 105 = up2 J 105 (J 13 34).toNatClampNeg a0 105 from by first | rfl | omega, show J 106 = up2 J 106 (J 13 34).toNatClampNeg a1 106 from by first | rfl | omega, show J 107 = up2 J 107 (J 13 34).toNatClampNeg a2 107 from by first | rfl | omega⟩))) | (exfalso; omega))⟩ dX12_cut_17
  · have c2 : ¬ r1.toInt = 0 := tne rfl kp0 c2
    refine lv_iload_n hx hb dX12_cut_8 rfl (lv_at hl 1 rfl) ?_
    refine lv_if_ne (tgt := 18) hx hb dX12_cut_9 (by decide) (fun c4 => ?_) (fun c4 => ?_)
    · have c4 : ¬ a0.toInt = 0 := tne rfl kp0 c4
      refine lv_iload_n hx hb dX12_cut_18 rfl (lv_at hl 2 rfl) ?_
      refine lv_aload_n hx hb dX12_cut_19 rfl (lv_at hl 0 rfl) ?_
      refine rg_13_31 C hW (mm_ rfl) tw_1054 dX12_cut_20 ?_
      refine lv_icmp_lt (tgt := 31) hx hb dX12_cut_23 (by decide) (fun c5 => ?_) (fun c5 => ?_)
      · have c5 : a1.toInt < (J 13 31).toInt := tlt rfl rfl c5
        refine lv_aload_n hx hb dX12_cut_31 rfl (lv_at hl 0 rfl) ?_
        refine lv_bipush (v := (-4)) hx hb dX12_cut_32 (by decide) ?_
        refine ci_ C hW (runV (x := (g.2.2.1 13)) (As := [.int (-4)]) (rest := []) (T := ((J, L, I, P, E, N), sgM g)) C hW (c_X12_refuse l g J L I P E N H.size (-4) (show -6 ≤ (-4 : Int32).toInt ∧ (-4 : Int32).toInt ≤ -1 from by (try simp only [kn4]); omega)) mi_X12_refuse tw_1239 (recv_ (T := ((J, L, I, P, E, N), sgM g)) C hW (mm_ rfl) rfl rfl) ⟨rfl, rfl, Nat.le_of_ble_eq_true rfl, Nat.le_of_ble_eq_true rfl⟩ rfl hl.1 rfl (Nat.le_of_ble_eq_true rfl) dX12_cut_34 ⟨Nat.le_of_ble_eq_true rfl, Nat.le_of_ble_eq_true rfl⟩) (fun r6 u6 H locs hp6 hW => ?_)
        have hc6 : ((r6 = (-4))) := hp6
        clear hp6
        have hr6 : r6.toInt = (-4) := by rw [hc6]; exact kn4
        have hW : WB g A s.heap H locs ((hv J [100] [] u6), L, I, P, E, N) (sgM g) := hW
        have hWr : WB g A s.heap H locs (hv J [100, 105, 106, 107] [(13, 34)] (hv J [100] [] u6), L, I, P, E, N) (sgM g) := by
          rw [← ag_hvE (J := J) (R := [100, 105, 106, 107]) (F := [(13, 34)]) (ag_hv rfl rfl ag_rf)]
          exact hW
        have hwmr : WM (hv J [100] [] u6) := by exact hwm
        have hwmr : WM (hv J [100, 105, 106, 107] [(13, 34)] (hv J [100] [] u6)) := by
          rw [← ag_hvE (J := J) (R := [100, 105, 106, 107]) (F := [(13, 34)]) (ag_hv rfl rfl ag_rf)]; exact hwmr
        subst hQ9
        exact end_i C hr hlocks (hv J [100] [] u6) hWr ⟨hwmr, by first | exact Or.inl ⟨by omega, by omega, show J 13 34 = J 13 34 from by first | rfl | assumption, show J 105 = J 105 from by first | rfl | assumption, show J 106 = J 106 from by first | rfl | assumption, show J 107 = J 107 from by first | rfl | assumption⟩ | exact Or.inr (Or.inl ⟨by omega, by omega, show J 13 34 = J 13 34 from by first | rfl | assumption, show J 105 = J 105 from by first | rfl | assumption, show J 106 = J 106 from by first | rfl | assumption, show J 107 = J 107 from by first | rfl | assumption⟩) | exact Or.inr (Or.inr (Or.inl ⟨by omega, by omega, show J 13 34 = J 13 34 from by first | rfl | assumption, show J 105 = J 105 from by first | rfl | assumption, show J 106 = J 106 from by first | rfl | assumption, show J 107 = J 107 from by first | rfl | assumption⟩)) | exact Or.inr (Or.inr (Or.inr (⟨by omega, by omega, show (J 13 34).toInt = (J 13 34).toInt + 1 from by first | rfl | omega, show J 105 = up2 J 105 (J 13 34).toNatClampNeg a0 105 from by first | rfl | omega, show J 106 = up2 J 106 (J 13 34).toNatClampNeg a1 106 from by first | rfl | omega, show J 107 = up2 J 107 (J 13 34).toNatClampNeg a2 107 from by first | rfl | omega⟩))) | (rcases hc1 with qhc1 | qhc1 <;> first | exact Or.inl ⟨by omega, by omega, show J 13 34 = J 13 34 from by first | rfl | assumption, show J 105 = J 105 from by first | rfl | assumption, show J 106 = J 106 from by first | rfl | assumption, show J 107 = J 107 from by first | rfl | assumption⟩ | exact Or.inr (Or.inl ⟨by omega, by omega, show J 13 34 = J 13 34 from by first | rfl | assumption, show J 105 = J 105 from by first | rfl | assumption, show J 106 = J 106 from by first | rfl | assumption, show J 107 = J 107 from by first | rfl | assumption⟩) | exact Or.inr (Or.inr (Or.inl ⟨by omega, by omega, show J 13 34 = J 13 34 from by first | rfl | assumption, show J 105 = J 105 from by first | rfl | assumption, show J 106 = J 106 from by first | rfl | assumption, show J 107 = J 107 from by first | rfl | assumption⟩)) | exact Or.inr (Or.inr (Or.inr (⟨by omega, by omega, show (J 13 34).toInt = (J 13 34).toInt + 1 from by first | rfl | omega, show J 105 = up2 J 105 (J 13 34).toNatClampNeg a0 105 from by first | rfl | omega, show J 106 = up2 J 106 (J 13 34).toNatClampNeg a1 106 from by first | rfl | omega, show J 107 = up2 J 107 (J 13 34).toNatClampNeg a2 107 from by first | rfl | omega⟩))) | (exfalso; omega))⟩ dX12_cut_37
      · have c5 : (J 13 31).toInt ≤ a1.toInt := tnlt rfl rfl c5
        refine lv_iload_n hx hb dX12_cut_26 rfl (lv_at hl 3 rfl) ?_
        refine lv_iload_n hx hb dX12_cut_27 rfl (lv_at hl 2 rfl) ?_
        refine lv_icmp_ge (tgt := 38) hx hb dX12_cut_28 (by decide) (fun c7 => ?_) (fun c7 => ?_)
        · have c7 : a1.toInt ≤ a2.toInt := tle rfl rfl c7
          refine lv_iload_n hx hb dX12_cut_38 rfl (lv_at hl 3 rfl) ?_
          refine lv_sipush (v := 9999) hx hb dX12_cut_39 (by decide) ?_
          refine lv_icmp_gt (tgt := 54) hx hb dX12_cut_42 (by decide) (fun c8 => ?_) (fun c8 => ?_)
          · have c8 : 9999 < a2.toInt := tlt kp9999 rfl c8
            refine lv_aload_n hx hb dX12_cut_54 rfl (lv_at hl 0 rfl) ?_
            refine lv_bipush (v := (-6)) hx hb dX12_cut_55 (by decide) ?_
            refine ci_ C hW (runV (x := (g.2.2.1 13)) (As := [.int (-6)]) (rest := []) (T := ((J, L, I, P, E, N), sgM g)) C hW (c_X12_refuse l g J L I P E N H.size (-6) (show -6 ≤ (-6 : Int32).toInt ∧ (-6 : Int32).toInt ≤ -1 from by (try simp only [kn6]); omega)) mi_X12_refuse tw_1239 (recv_ (T := ((J, L, I, P, E, N), sgM g)) C hW (mm_ rfl) rfl rfl) ⟨rfl, rfl, Nat.le_of_ble_eq_true rfl, Nat.le_of_ble_eq_true rfl⟩ rfl hl.1 rfl (Nat.le_of_ble_eq_true rfl) dX12_cut_57 ⟨Nat.le_of_ble_eq_true rfl, Nat.le_of_ble_eq_true rfl⟩) (fun r9 u9 H locs hp9 hW => ?_)
            have hc9 : ((r9 = (-6))) := hp9
            clear hp9
            have hr9 : r9.toInt = (-6) := by rw [hc9]; exact kn6
            have hW : WB g A s.heap H locs ((hv J [100] [] u9), L, I, P, E, N) (sgM g) := hW
            have hWr : WB g A s.heap H locs (hv J [100, 105, 106, 107] [(13, 34)] (hv J [100] [] u9), L, I, P, E, N) (sgM g) := by
              rw [← ag_hvE (J := J) (R := [100, 105, 106, 107]) (F := [(13, 34)]) (ag_hv rfl rfl ag_rf)]
              exact hW
            have hwmr : WM (hv J [100] [] u9) := by exact hwm
            have hwmr : WM (hv J [100, 105, 106, 107] [(13, 34)] (hv J [100] [] u9)) := by
              rw [← ag_hvE (J := J) (R := [100, 105, 106, 107]) (F := [(13, 34)]) (ag_hv rfl rfl ag_rf)]; exact hwmr
            subst hQ9
            exact end_i C hr hlocks (hv J [100] [] u9) hWr ⟨hwmr, by first | exact Or.inl ⟨by omega, by omega, show J 13 34 = J 13 34 from by first | rfl | assumption, show J 105 = J 105 from by first | rfl | assumption, show J 106 = J 106 from by first | rfl | assumption, show J 107 = J 107 from by first | rfl | assumption⟩ | exact Or.inr (Or.inl ⟨by omega, by omega, show J 13 34 = J 13 34 from by first | rfl | assumption, show J 105 = J 105 from by first | rfl | assumption, show J 106 = J 106 from by first | rfl | assumption, show J 107 = J 107 from by first | rfl | assumption⟩) | exact Or.inr (Or.inr (Or.inl ⟨by omega, by omega, show J 13 34 = J 13 34 from by first | rfl | assumption, show J 105 = J 105 from by first | rfl | assumption, show J 106 = J 106 from by first | rfl | assumption, show J 107 = J 107 from by first | rfl | assumption⟩)) | exact Or.inr (Or.inr (Or.inr (⟨by omega, by omega, show (J 13 34).toInt = (J 13 34).toInt + 1 from by first | rfl | omega, show J 105 = up2 J 105 (J 13 34).toNatClampNeg a0 105 from by first | rfl | omega, show J 106 = up2 J 106 (J 13 34).toNatClampNeg a1 106 from by first | rfl | omega, show J 107 = up2 J 107 (J 13 34).toNatClampNeg a2 107 from by first | rfl | omega⟩))) | (rcases hc1 with qhc1 | qhc1 <;> first | exact Or.inl ⟨by omega, by omega, show J 13 34 = J 13 34 from by first | rfl | assumption, show J 105 = J 105 from by first | rfl | assumption, show J 106 = J 106 from by first | rfl | assumption, show J 107 = J 107 from by first | rfl | assumption⟩ | exact Or.inr (Or.inl ⟨by omega, by omega, show J 13 34 = J 13 34 from by first | rfl | assumption, show J 105 = J 105 from by first | rfl | assumption, show J 106 = J 106 from by first | rfl | assumption, show J 107 = J 107 from by first | rfl | assumption⟩) | exact Or.inr (Or.inr (Or.inl ⟨by omega, by omega, show J 13 34 = J 13 34 from by first | rfl | assumption, show J 105 = J 105 from by first | rfl | assumption, show J 106 = J 106 from by first | rfl | assumption, show J 107 = J 107 from by first | rfl | assumption⟩)) | exact Or.inr (Or.inr (Or.inr (⟨by omega, by omega, show (J 13 34).toInt = (J 13 34).toInt + 1 from by first | rfl | omega, show J 105 = up2 J 105 (J 13 34).toNatClampNeg a0 105 from by first | rfl | omega, show J 106 = up2 J 106 (J 13 34).toNatClampNeg a1 106 from by first | rfl | omega, show J 107 = up2 J 107 (J 13 34).toNatClampNeg a2 107 from by first | rfl | omega⟩))) | (exfalso; omega))⟩ dX12_cut_60
          · have c8 : a2.toInt ≤ 9999 := tnlt kp9999 rfl c8
            refine lv_aload_n hx hb dX12_cut_45 rfl (lv_at hl 0 rfl) ?_
            refine rg_13_34 C hW (mm_ rfl) tw_1057 dX12_cut_46 ?_
            refine lv_bipush (v := 40) hx hb dX12_cut_49 (by decide) ?_
            refine lv_icmp_ne (tgt := 61) hx hb dX12_cut_51 (by decide) (fun c10 => ?_) (fun c10 => ?_)
            · have c10 : ¬ (J 13 34).toInt = 40 := tne rfl kp40 c10
              refine lv_aload_n hx hb dX12_cut_61 rfl (lv_at hl 0 rfl) ?_
              refine rg_13_5 C hW (mm_ rfl) tw_1028 dX12_cut_62 ?_
              refine lv_aload_n hx hb dX12_cut_65 rfl (lv_at hl 0 rfl) ?_
              refine rg_13_34 C hW (mm_ rfl) tw_1057 dX12_cut_66 ?_
              refine lv_iload_n hx hb dX12_cut_69 rfl (lv_at hl 1 rfl) ?_
              have hin : vp_in (J 13 34) 40 := tin rfl (by omega)
              refine rs_105 C hW (mm_ rfl) hin dX12_cut_70 (fun H locs hW => ?_)
              refine lv_aload_n hx hb dX12_cut_71 rfl (lv_at hl 0 rfl) ?_
              refine rg_13_6 C hW (mm_ rfl) tw_1029 dX12_cut_72 ?_
              refine lv_aload_n hx hb dX12_cut_75 rfl (lv_at hl 0 rfl) ?_
              refine rg_13_34 C hW (mm_ rfl) tw_1057 dX12_cut_76 ?_
              refine lv_as (J 13 34) rfl ?_
              refine lv_iload_n hx hb dX12_cut_79 rfl (lv_at hl 2 rfl) ?_
              have hin : vp_in (J 13 34) 40 := tin rfl (by omega)
              refine rs_106 C hW (mm_ rfl) hin dX12_cut_80 (fun H locs hW => ?_)
              refine lv_aload_n hx hb dX12_cut_81 rfl (lv_at hl 0 rfl) ?_
              refine rg_13_7 C hW (mm_ rfl) tw_1030 dX12_cut_82 ?_
              refine lv_aload_n hx hb dX12_cut_85 rfl (lv_at hl 0 rfl) ?_
              refine rg_13_34 C hW (mm_ rfl) tw_1057 dX12_cut_86 ?_
              refine lv_as (J 13 34) rfl ?_
              refine lv_iload_n hx hb dX12_cut_89 rfl (lv_at hl 3 rfl) ?_
              have hin : vp_in (J 13 34) 40 := tin rfl (by omega)
              refine rs_107 C hW (mm_ rfl) hin dX12_cut_90 (fun H locs hW => ?_)
              refine lv_aload_n hx hb dX12_cut_91 rfl (lv_at hl 0 rfl) ?_
              refine lv_dup hx hb dX12_cut_92 rfl ?_
              refine rg_13_34 C hW (mm_ rfl) tw_1057 dX12_cut_93 ?_
              refine lv_as (J 13 34) rfl ?_
              refine lv_iconst (v := 1) hx hb dX12_cut_96 (by decide) ?_
              refine lv_iadd hx hb dX12_cut_97 ?_
              refine lv_topi (fun x11 (e11 : x11 = (J 13 34) + 1) => ?_)
              try have t11 : x11.toInt = (J 13 34).toInt + 1 := tadd e11 rfl kp1 (by omega)
              refine rp_13_34 C hW (mm_ rfl) tw_1057 dX12_cut_98 (fun H locs hW => ?_)
              refine lv_aload_n hx hb dX12_cut_101 rfl (lv_at hl 0 rfl) ?_
              refine rg_13_34 C hW (mm_ rfl) tw_1057 dX12_cut_102 ?_
              refine lv_as x11 rfl ?_
              have hWr : WB g A s.heap H locs (hv J [100, 105, 106, 107] [(13, 34)] (up2 (up2 (up2 (up2 J 105 ((J 13 34).toNatClampNeg) a0) 106 ((J 13 34).toNatClampNeg) a1) 107 ((J 13 34).toNatClampNeg) a2) 13 34 x11), L, I, P, E, N) (sgM g) := by
                rw [← ag_hvE (J := J) (R := [100, 105, 106, 107]) (F := [(13, 34)]) (ag_up (Or.inr rfl) (ag_up (Or.inl rfl) (ag_up (Or.inl rfl) (ag_up (Or.inl rfl) ag_rf))))]
                exact hW
              have hwmr : WM (up2 (up2 (up2 (up2 J 105 ((J 13 34).toNatClampNeg) a0) 106 ((J 13 34).toNatClampNeg) a1) 107 ((J 13 34).toNatClampNeg) a2) 13 34 x11) := by exact wm_cut (a := J 0) (b := J 0) (c := J 0) hwm (by omega)
              have hwmr : WM (hv J [100, 105, 106, 107] [(13, 34)] (up2 (up2 (up2 (up2 J 105 ((J 13 34).toNatClampNeg) a0) 106 ((J 13 34).toNatClampNeg) a1) 107 ((J 13 34).toNatClampNeg) a2) 13 34 x11)) := by
                rw [← ag_hvE (J := J) (R := [100, 105, 106, 107]) (F := [(13, 34)]) (ag_up (Or.inr rfl) (ag_up (Or.inl rfl) (ag_up (Or.inl rfl) (ag_up (Or.inl rfl) ag_rf))))]; exact hwmr
              subst hQ9
              exact end_i C hr hlocks (up2 (up2 (up2 (up2 J 105 ((J 13 34).toNatClampNeg) a0) 106 ((J 13 34).toNatClampNeg) a1) 107 ((J 13 34).toNatClampNeg) a2) 13 34 x11) hWr ⟨hwmr, by first | exact Or.inl ⟨by omega, by omega, show x11 = J 13 34 from by first | rfl | assumption, show (up2 J 105 ((J 13 34).toNatClampNeg) a0) 105 = J 105 from by first | rfl | assumption, show (up2 J 106 ((J 13 34).toNatClampNeg) a1) 106 = J 106 from by first | rfl | assumption, show (up2 J 107 ((J 13 34).toNatClampNeg) a2) 107 = J 107 from by first | rfl | assumption⟩ | exact Or.inr (Or.inl ⟨by omega, by omega, show x11 = J 13 34 from by first | rfl | assumption, show (up2 J 105 ((J 13 34).toNatClampNeg) a0) 105 = J 105 from by first | rfl | assumption, show (up2 J 106 ((J 13 34).toNatClampNeg) a1) 106 = J 106 from by first | rfl | assumption, show (up2 J 107 ((J 13 34).toNatClampNeg) a2) 107 = J 107 from by first | rfl | assumption⟩) | exact Or.inr (Or.inr (Or.inl ⟨by omega, by omega, show x11 = J 13 34 from by first | rfl | assumption, show (up2 J 105 ((J 13 34).toNatClampNeg) a0) 105 = J 105 from by first | rfl | assumption, show (up2 J 106 ((J 13 34).toNatClampNeg) a1) 106 = J 106 from by first | rfl | assumption, show (up2 J 107 ((J 13 34).toNatClampNeg) a2) 107 = J 107 from by first | rfl | assumption⟩)) | exact Or.inr (Or.inr (Or.inr (⟨by omega, by omega, show (x11).toInt = (J 13 34).toInt + 1 from by first | rfl | omega, show (up2 J 105 ((J 13 34).toNatClampNeg) a0) 105 = up2 J 105 (J 13 34).toNatClampNeg a0 105 from by first | rfl | omega, show (up2 J 106 ((J 13 34).toNatClampNeg) a1) 106 = up2 J 106 (J 13 34).toNatClampNeg a1 106 from by first | rfl | omega, show (up2 J 107 ((J 13 34).toNatClampNeg) a2) 107 = up2 J 107 (J 13 34).toNatClampNeg a2 107 from by first | rfl | omega⟩))) | (rcases hc1 with qhc1 | qhc1 <;> first | exact Or.inl ⟨by omega, by omega, show x11 = J 13 34 from by first | rfl | assumption, show (up2 J 105 ((J 13 34).toNatClampNeg) a0) 105 = J 105 from by first | rfl | assumption, show (up2 J 106 ((J 13 34).toNatClampNeg) a1) 106 = J 106 from by first | rfl | assumption, show (up2 J 107 ((J 13 34).toNatClampNeg) a2) 107 = J 107 from by first | rfl | assumption⟩ | exact Or.inr (Or.inl ⟨by omega, by omega, show x11 = J 13 34 from by first | rfl | assumption, show (up2 J 105 ((J 13 34).toNatClampNeg) a0) 105 = J 105 from by first | rfl | assumption, show (up2 J 106 ((J 13 34).toNatClampNeg) a1) 106 = J 106 from by first | rfl | assumption, show (up2 J 107 ((J 13 34).toNatClampNeg) a2) 107 = J 107 from by first | rfl | assumption⟩) | exact Or.inr (Or.inr (Or.inl ⟨by omega, by omega, show x11 = J 13 34 from by first | rfl | assumption, show (up2 J 105 ((J 13 34).toNatClampNeg) a0) 105 = J 105 from by first | rfl | assumption, show (up2 J 106 ((J 13 34).toNatClampNeg) a1) 106 = J 106 from by first | rfl | assumption, show (up2 J 107 ((J 13 34).toNatClampNeg) a2) 107 = J 107 from by first | rfl | assumption⟩)) | exact Or.inr (Or.inr (Or.inr (⟨by omega, by omega, show (x11).toInt = (J 13 34).toInt + 1 from by first | rfl | omega, show (up2 J 105 ((J 13 34).toNatClampNeg) a0) 105 = up2 J 105 (J 13 34).toNatClampNeg a0 105 from by first | rfl | omega, show (up2 J 106 ((J 13 34).toNatClampNeg) a1) 106 = up2 J 106 (J 13 34).toNatClampNeg a1 106 from by first | rfl | omega, show (up2 J 107 ((J 13 34).toNatClampNeg) a2) 107 = up2 J 107 (J 13 34).toNatClampNeg a2 107 from by first | rfl | omega⟩))) | (exfalso; omega))⟩ dX12_cut_105
            · have c10 : (J 13 34).toInt = 40 := teq rfl kp40 c10
              refine lv_aload_n hx hb dX12_cut_54 rfl (lv_at hl 0 rfl) ?_
              refine lv_bipush (v := (-6)) hx hb dX12_cut_55 (by decide) ?_
              refine ci_ C hW (runV (x := (g.2.2.1 13)) (As := [.int (-6)]) (rest := []) (T := ((J, L, I, P, E, N), sgM g)) C hW (c_X12_refuse l g J L I P E N H.size (-6) (show -6 ≤ (-6 : Int32).toInt ∧ (-6 : Int32).toInt ≤ -1 from by (try simp only [kn6]); omega)) mi_X12_refuse tw_1239 (recv_ (T := ((J, L, I, P, E, N), sgM g)) C hW (mm_ rfl) rfl rfl) ⟨rfl, rfl, Nat.le_of_ble_eq_true rfl, Nat.le_of_ble_eq_true rfl⟩ rfl hl.1 rfl (Nat.le_of_ble_eq_true rfl) dX12_cut_57 ⟨Nat.le_of_ble_eq_true rfl, Nat.le_of_ble_eq_true rfl⟩) (fun r12 u12 H locs hp12 hW => ?_)
              have hc12 : ((r12 = (-6))) := hp12
              clear hp12
              have hr12 : r12.toInt = (-6) := by rw [hc12]; exact kn6
              have hW : WB g A s.heap H locs ((hv J [100] [] u12), L, I, P, E, N) (sgM g) := hW
              have hWr : WB g A s.heap H locs (hv J [100, 105, 106, 107] [(13, 34)] (hv J [100] [] u12), L, I, P, E, N) (sgM g) := by
                rw [← ag_hvE (J := J) (R := [100, 105, 106, 107]) (F := [(13, 34)]) (ag_hv rfl rfl ag_rf)]
                exact hW
              have hwmr : WM (hv J [100] [] u12) := by exact hwm
              have hwmr : WM (hv J [100, 105, 106, 107] [(13, 34)] (hv J [100] [] u12)) := by
                rw [← ag_hvE (J := J) (R := [100, 105, 106, 107]) (F := [(13, 34)]) (ag_hv rfl rfl ag_rf)]; exact hwmr
              subst hQ9
              exact end_i C hr hlocks (hv J [100] [] u12) hWr ⟨hwmr, by first | exact Or.inl ⟨by omega, by omega, show J 13 34 = J 13 34 from by first | rfl | assumption, show J 105 = J 105 from by first | rfl | assumption, show J 106 = J 106 from by first | rfl | assumption, show J 107 = J 107 from by first | rfl | assumption⟩ | exact Or.inr (Or.inl ⟨by omega, by omega, show J 13 34 = J 13 34 from by first | rfl | assumption, show J 105 = J 105 from by first | rfl | assumption, show J 106 = J 106 from by first | rfl | assumption, show J 107 = J 107 from by first | rfl | assumption⟩) | exact Or.inr (Or.inr (Or.inl ⟨by omega, by omega, show J 13 34 = J 13 34 from by first | rfl | assumption, show J 105 = J 105 from by first | rfl | assumption, show J 106 = J 106 from by first | rfl | assumption, show J 107 = J 107 from by first | rfl | assumption⟩)) | exact Or.inr (Or.inr (Or.inr (⟨by omega, by omega, show (J 13 34).toInt = (J 13 34).toInt + 1 from by first | rfl | omega, show J 105 = up2 J 105 (J 13 34).toNatClampNeg a0 105 from by first | rfl | omega, show J 106 = up2 J 106 (J 13 34).toNatClampNeg a1 106 from by first | rfl | omega, show J 107 = up2 J 107 (J 13 34).toNatClampNeg a2 107 from by first | rfl | omega⟩))) | (rcases hc1 with qhc1 | qhc1 <;> first | exact Or.inl ⟨by omega, by omega, show J 13 34 = J 13 34 from by first | rfl | assumption, show J 105 = J 105 from by first | rfl | assumption, show J 106 = J 106 from by first | rfl | assumption, show J 107 = J 107 from by first | rfl | assumption⟩ | exact Or.inr (Or.inl ⟨by omega, by omega, show J 13 34 = J 13 34 from by first | rfl | assumption, show J 105 = J 105 from by first | rfl | assumption, show J 106 = J 106 from by first | rfl | assumption, show J 107 = J 107 from by first | rfl | assumption⟩) | exact Or.inr (Or.inr (Or.inl ⟨by omega, by omega, show J 13 34 = J 13 34 from by first | rfl | assumption, show J 105 = J 105 from by first | rfl | assumption, show J 106 = J 106 from by first | rfl | assumption, show J 107 = J 107 from by first | rfl | assumption⟩)) | exact Or.inr (Or.inr (Or.inr (⟨by omega, by omega, show (J 13 34).toInt = (J 13 34).toInt + 1 from by first | rfl | omega, show J 105 = up2 J 105 (J 13 34).toNatClampNeg a0 105 from by first | rfl | omega, show J 106 = up2 J 106 (J 13 34).toNatClampNeg a1 106 from by first | rfl | omega, show J 107 = up2 J 107 (J 13 34).toNatClampNeg a2 107 from by first | rfl | omega⟩))) | (exfalso; omega))⟩ dX12_cut_60
        · have c7 : a2.toInt < a1.toInt := tnle rfl rfl c7
          refine lv_aload_n hx hb dX12_cut_31 rfl (lv_at hl 0 rfl) ?_
          refine lv_bipush (v := (-4)) hx hb dX12_cut_32 (by decide) ?_
          refine ci_ C hW (runV (x := (g.2.2.1 13)) (As := [.int (-4)]) (rest := []) (T := ((J, L, I, P, E, N), sgM g)) C hW (c_X12_refuse l g J L I P E N H.size (-4) (show -6 ≤ (-4 : Int32).toInt ∧ (-4 : Int32).toInt ≤ -1 from by (try simp only [kn4]); omega)) mi_X12_refuse tw_1239 (recv_ (T := ((J, L, I, P, E, N), sgM g)) C hW (mm_ rfl) rfl rfl) ⟨rfl, rfl, Nat.le_of_ble_eq_true rfl, Nat.le_of_ble_eq_true rfl⟩ rfl hl.1 rfl (Nat.le_of_ble_eq_true rfl) dX12_cut_34 ⟨Nat.le_of_ble_eq_true rfl, Nat.le_of_ble_eq_true rfl⟩) (fun r13 u13 H locs hp13 hW => ?_)
          have hc13 : ((r13 = (-4))) := hp13
          clear hp13
          have hr13 : r13.toInt = (-4) := by rw [hc13]; exact kn4
          have hW : WB g A s.heap H locs ((hv J [100] [] u13), L, I, P, E, N) (sgM g) := hW
          have hWr : WB g A s.heap H locs (hv J [100, 105, 106, 107] [(13, 34)] (hv J [100] [] u13), L, I, P, E, N) (sgM g) := by
            rw [← ag_hvE (J := J) (R := [100, 105, 106, 107]) (F := [(13, 34)]) (ag_hv rfl rfl ag_rf)]
            exact hW
          have hwmr : WM (hv J [100] [] u13) := by exact hwm
          have hwmr : WM (hv J [100, 105, 106, 107] [(13, 34)] (hv J [100] [] u13)) := by
            rw [← ag_hvE (J := J) (R := [100, 105, 106, 107]) (F := [(13, 34)]) (ag_hv rfl rfl ag_rf)]; exact hwmr
          subst hQ9
          exact end_i C hr hlocks (hv J [100] [] u13) hWr ⟨hwmr, by first | exact Or.inl ⟨by omega, by omega, show J 13 34 = J 13 34 from by first | rfl | assumption, show J 105 = J 105 from by first | rfl | assumption, show J 106 = J 106 from by first | rfl | assumption, show J 107 = J 107 from by first | rfl | assumption⟩ | exact Or.inr (Or.inl ⟨by omega, by omega, show J 13 34 = J 13 34 from by first | rfl | assumption, show J 105 = J 105 from by first | rfl | assumption, show J 106 = J 106 from by first | rfl | assumption, show J 107 = J 107 from by first | rfl | assumption⟩) | exact Or.inr (Or.inr (Or.inl ⟨by omega, by omega, show J 13 34 = J 13 34 from by first | rfl | assumption, show J 105 = J 105 from by first | rfl | assumption, show J 106 = J 106 from by first | rfl | assumption, show J 107 = J 107 from by first | rfl | assumption⟩)) | exact Or.inr (Or.inr (Or.inr (⟨by omega, by omega, show (J 13 34).toInt = (J 13 34).toInt + 1 from by first | rfl | omega, show J 105 = up2 J 105 (J 13 34).toNatClampNeg a0 105 from by first | rfl | omega, show J 106 = up2 J 106 (J 13 34).toNatClampNeg a1 106 from by first | rfl | omega, show J 107 = up2 J 107 (J 13 34).toNatClampNeg a2 107 from by first | rfl | omega⟩))) | (rcases hc1 with qhc1 | qhc1 <;> first | exact Or.inl ⟨by omega, by omega, show J 13 34 = J 13 34 from by first | rfl | assumption, show J 105 = J 105 from by first | rfl | assumption, show J 106 = J 106 from by first | rfl | assumption, show J 107 = J 107 from by first | rfl | assumption⟩ | exact Or.inr (Or.inl ⟨by omega, by omega, show J 13 34 = J 13 34 from by first | rfl | assumption, show J 105 = J 105 from by first | rfl | assumption, show J 106 = J 106 from by first | rfl | assumption, show J 107 = J 107 from by first | rfl | assumption⟩) | exact Or.inr (Or.inr (Or.inl ⟨by omega, by omega, show J 13 34 = J 13 34 from by first | rfl | assumption, show J 105 = J 105 from by first | rfl | assumption, show J 106 = J 106 from by first | rfl | assumption, show J 107 = J 107 from by first | rfl | assumption⟩)) | exact Or.inr (Or.inr (Or.inr (⟨by omega, by omega, show (J 13 34).toInt = (J 13 34).toInt + 1 from by first | rfl | omega, show J 105 = up2 J 105 (J 13 34).toNatClampNeg a0 105 from by first | rfl | omega, show J 106 = up2 J 106 (J 13 34).toNatClampNeg a1 106 from by first | rfl | omega, show J 107 = up2 J 107 (J 13 34).toNatClampNeg a2 107 from by first | rfl | omega⟩))) | (exfalso; omega))⟩ dX12_cut_37
    · have c4 : a0.toInt = 0 := teq rfl kp0 c4
      refine lv_aload_n hx hb dX12_cut_12 rfl (lv_at hl 0 rfl) ?_
      refine lv_iconst (v := (-1)) hx hb dX12_cut_13 (by decide) ?_
      refine ci_ C hW (runV (x := (g.2.2.1 13)) (As := [.int (-1)]) (rest := []) (T := ((J, L, I, P, E, N), sgM g)) C hW (c_X12_refuse l g J L I P E N H.size (-1) (show -6 ≤ (-1 : Int32).toInt ∧ (-1 : Int32).toInt ≤ -1 from by (try simp only [kn1]); omega)) mi_X12_refuse tw_1239 (recv_ (T := ((J, L, I, P, E, N), sgM g)) C hW (mm_ rfl) rfl rfl) ⟨rfl, rfl, Nat.le_of_ble_eq_true rfl, Nat.le_of_ble_eq_true rfl⟩ rfl hl.1 rfl (Nat.le_of_ble_eq_true rfl) dX12_cut_14 ⟨Nat.le_of_ble_eq_true rfl, Nat.le_of_ble_eq_true rfl⟩) (fun r14 u14 H locs hp14 hW => ?_)
      have hc14 : ((r14 = (-1))) := hp14
      clear hp14
      have hr14 : r14.toInt = (-1) := by rw [hc14]; exact kn1
      have hW : WB g A s.heap H locs ((hv J [100] [] u14), L, I, P, E, N) (sgM g) := hW
      have hWr : WB g A s.heap H locs (hv J [100, 105, 106, 107] [(13, 34)] (hv J [100] [] u14), L, I, P, E, N) (sgM g) := by
        rw [← ag_hvE (J := J) (R := [100, 105, 106, 107]) (F := [(13, 34)]) (ag_hv rfl rfl ag_rf)]
        exact hW
      have hwmr : WM (hv J [100] [] u14) := by exact hwm
      have hwmr : WM (hv J [100, 105, 106, 107] [(13, 34)] (hv J [100] [] u14)) := by
        rw [← ag_hvE (J := J) (R := [100, 105, 106, 107]) (F := [(13, 34)]) (ag_hv rfl rfl ag_rf)]; exact hwmr
      subst hQ9
      exact end_i C hr hlocks (hv J [100] [] u14) hWr ⟨hwmr, by first | exact Or.inl ⟨by omega, by omega, show J 13 34 = J 13 34 from by first | rfl | assumption, show J 105 = J 105 from by first | rfl | assumption, show J 106 = J 106 from by first | rfl | assumption, show J 107 = J 107 from by first | rfl | assumption⟩ | exact Or.inr (Or.inl ⟨by omega, by omega, show J 13 34 = J 13 34 from by first | rfl | assumption, show J 105 = J 105 from by first | rfl | assumption, show J 106 = J 106 from by first | rfl | assumption, show J 107 = J 107 from by first | rfl | assumption⟩) | exact Or.inr (Or.inr (Or.inl ⟨by omega, by omega, show J 13 34 = J 13 34 from by first | rfl | assumption, show J 105 = J 105 from by first | rfl | assumption, show J 106 = J 106 from by first | rfl | assumption, show J 107 = J 107 from by first | rfl | assumption⟩)) | exact Or.inr (Or.inr (Or.inr (⟨by omega, by omega, show (J 13 34).toInt = (J 13 34).toInt + 1 from by first | rfl | omega, show J 105 = up2 J 105 (J 13 34).toNatClampNeg a0 105 from by first | rfl | omega, show J 106 = up2 J 106 (J 13 34).toNatClampNeg a1 106 from by first | rfl | omega, show J 107 = up2 J 107 (J 13 34).toNatClampNeg a2 107 from by first | rfl | omega⟩))) | (rcases hc1 with qhc1 | qhc1 <;> first | exact Or.inl ⟨by omega, by omega, show J 13 34 = J 13 34 from by first | rfl | assumption, show J 105 = J 105 from by first | rfl | assumption, show J 106 = J 106 from by first | rfl | assumption, show J 107 = J 107 from by first | rfl | assumption⟩ | exact Or.inr (Or.inl ⟨by omega, by omega, show J 13 34 = J 13 34 from by first | rfl | assumption, show J 105 = J 105 from by first | rfl | assumption, show J 106 = J 106 from by first | rfl | assumption, show J 107 = J 107 from by first | rfl | assumption⟩) | exact Or.inr (Or.inr (Or.inl ⟨by omega, by omega, show J 13 34 = J 13 34 from by first | rfl | assumption, show J 105 = J 105 from by first | rfl | assumption, show J 106 = J 106 from by first | rfl | assumption, show J 107 = J 107 from by first | rfl | assumption⟩)) | exact Or.inr (Or.inr (Or.inr (⟨by omega, by omega, show (J 13 34).toInt = (J 13 34).toInt + 1 from by first | rfl | omega, show J 105 = up2 J 105 (J 13 34).toNatClampNeg a0 105 from by first | rfl | omega, show J 106 = up2 J 106 (J 13 34).toNatClampNeg a1 106 from by first | rfl | omega, show J 107 = up2 J 107 (J 13 34).toNatClampNeg a2 107 from by first | rfl | omega⟩))) | (exfalso; omega))⟩ dX12_cut_17
