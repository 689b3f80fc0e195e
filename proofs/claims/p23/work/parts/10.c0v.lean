set_option maxHeartbeats 4000000 in
set_option maxRecDepth 100000 in
theorem c_X12_minuteOf_e (l : Launch) (g : gG) (J : Nat → Nat → Int32) (L : Nat → Nat → Int64) (I : Nat → Nat → Nat → Int32) (P : Nat → Nat → Nat → Option Nat) (E : Nat → Option Nat) (N : Nat → Nat) (sz : Nat) (a0 : Int32) (a1 : Int32) (hwm : WM J) (hcac : CAC J) : Met l yX12_minuteOf (WS yX12_minuteOf cX12_minuteOf 3 (some .int)) (RM (6) 0 0) (PC g [.ref (g.2.2.1 13), .int a0, .int a1] ((J, L, I, P, E, N), sgM g) sz) (va_Qi (fun (r : Int32) (u : (Nat → Nat → Int32)) => ((r.toInt = (-1) ∧ (¬ (0 ≤ a0.toInt ∧ a0.toInt < (J 13 31).toInt))) ∨ (r.toInt = (-2) ∧ (0 ≤ a0.toInt ∧ a0.toInt < (J 13 31).toInt ∧ (a1.toInt < 0 ∨ 6 < a1.toInt))) ∨ (r = J 116 a0.toNatClampNeg ∧ (0 ≤ a0.toInt ∧ a0.toInt < (J 13 31).toInt ∧ a1.toInt = 0)) ∨ (r = J 117 a0.toNatClampNeg ∧ (0 ≤ a0.toInt ∧ a0.toInt < (J 13 31).toInt ∧ a1.toInt = 1)) ∨ (r = J 118 a0.toNatClampNeg ∧ (0 ≤ a0.toInt ∧ a0.toInt < (J 13 31).toInt ∧ a1.toInt = 2)) ∨ (r = J 119 a0.toNatClampNeg ∧ (0 ≤ a0.toInt ∧ a0.toInt < (J 13 31).toInt ∧ a1.toInt = 3)) ∨ (r = J 120 a0.toNatClampNeg ∧ (0 ≤ a0.toInt ∧ a0.toInt < (J 13 31).toInt ∧ a1.toInt = 6)) ∨ (r = r ∧ (0 ≤ a0.toInt ∧ a0.toInt < (J 13 31).toInt ∧ a1.toInt = 4) ∧ ((J 116 a0.toNatClampNeg).toInt = 6 → r.toInt = 0) ∧ (¬ (J 116 a0.toNatClampNeg).toInt = 6 → ∃ o : Int, CAV J a0.toNatClampNeg r.toInt o)) ∨ (r = r ∧ (0 ≤ a0.toInt ∧ a0.toInt < (J 13 31).toInt ∧ a1.toInt = 5) ∧ ((J 116 a0.toNatClampNeg).toInt = 6 → r.toInt = 0) ∧ (¬ (J 116 a0.toNatClampNeg).toInt = 6 → ∃ s : Int, CAV J a0.toNatClampNeg s r.toInt))) ∧ (CAC (hv J [100, 146, 150, 151, 152] [(13, 47), (13, 48)] u))) (fun u t => at_ g (FR g ((J, L, I, P, E, N), sgM g) sz) ((hv J [100, 146, 150, 151, 152] [(13, 47), (13, 48)] u, L, I, P, E, N), sgM g) t) (FR g ((J, L, I, P, E, N), sgM g) sz)) 0 0 (FR g ((J, L, I, P, E, N), sgM g) sz) := by
  refine ent (by decide +kernel) (Nat.le_of_ble_eq_true rfl) ?_
  intro p e s m below meth c ls hsz C hW hr hlocks hname hl
  generalize FR g ((J, L, I, P, E, N), sgM g) sz = A at C hW ⊢
  generalize hQ9 : (va_Qi (fun (r : Int32) (u : (Nat → Nat → Int32)) => ((r.toInt = (-1) ∧ (¬ (0 ≤ a0.toInt ∧ a0.toInt < (J 13 31).toInt))) ∨ (r.toInt = (-2) ∧ (0 ≤ a0.toInt ∧ a0.toInt < (J 13 31).toInt ∧ (a1.toInt < 0 ∨ 6 < a1.toInt))) ∨ (r = J 116 a0.toNatClampNeg ∧ (0 ≤ a0.toInt ∧ a0.toInt < (J 13 31).toInt ∧ a1.toInt = 0)) ∨ (r = J 117 a0.toNatClampNeg ∧ (0 ≤ a0.toInt ∧ a0.toInt < (J 13 31).toInt ∧ a1.toInt = 1)) ∨ (r = J 118 a0.toNatClampNeg ∧ (0 ≤ a0.toInt ∧ a0.toInt < (J 13 31).toInt ∧ a1.toInt = 2)) ∨ (r = J 119 a0.toNatClampNeg ∧ (0 ≤ a0.toInt ∧ a0.toInt < (J 13 31).toInt ∧ a1.toInt = 3)) ∨ (r = J 120 a0.toNatClampNeg ∧ (0 ≤ a0.toInt ∧ a0.toInt < (J 13 31).toInt ∧ a1.toInt = 6)) ∨ (r = r ∧ (0 ≤ a0.toInt ∧ a0.toInt < (J 13 31).toInt ∧ a1.toInt = 4) ∧ ((J 116 a0.toNatClampNeg).toInt = 6 → r.toInt = 0) ∧ (¬ (J 116 a0.toNatClampNeg).toInt = 6 → ∃ o : Int, CAV J a0.toNatClampNeg r.toInt o)) ∨ (r = r ∧ (0 ≤ a0.toInt ∧ a0.toInt < (J 13 31).toInt ∧ a1.toInt = 5) ∧ ((J 116 a0.toNatClampNeg).toInt = 6 → r.toInt = 0) ∧ (¬ (J 116 a0.toNatClampNeg).toInt = 6 → ∃ s : Int, CAV J a0.toNatClampNeg s r.toInt))) ∧ (CAC (hv J [100, 146, 150, 151, 152] [(13, 47), (13, 48)] u))) (fun u t => at_ g A ((hv J [100, 146, 150, 151, 152] [(13, 47), (13, 48)] u, L, I, P, E, N), sgM g) t) A) = Q9
  have hx := C.1.1
  have hb := C.1.2.1
  have hts := C.1.2.2.2.2
  have hW : WB g A s.heap s.heap [] (J, L, I, P, E, N) (sgM g) := hW
  have hl : lv_has ls 3 [(0, .ref (g.2.2.1 13)), (1, .int a0), (2, .int a1)] := hl
  obtain ⟨H, hH⟩ : ∃ H : Heap, H = s.heap := ⟨_, rfl⟩
  obtain ⟨locs, hlocs⟩ : ∃ q : List Loc, q = [] := ⟨_, rfl⟩
  have hW : WB g A s.heap H locs (J, L, I, P, E, N) (sgM g) := by rw [hH, hlocs]; exact hW
  obtain ⟨⟨hnd1, hnd2, hon, hhm1, hhm2, hhN, hcu1, hcu2, hco1, hco2, hcN⟩, ⟨hrd1, hrd2⟩, ⟨hnw1, hnw2, hns1, hns2, hof⟩, ⟨htm1, htm2, hts_⟩, ⟨had1, had2, hrw1, hrw2, htp1, htp2⟩⟩ := id hwm
  refine start_ hH hlocs ?_
  refine lv_aload_n hx hb dX12_minuteOf_0 rfl (lv_at hl 0 rfl) ?_
  refine lv_iload_n hx hb dX12_minuteOf_1 rfl (lv_at hl 1 rfl) ?_
  refine ci_ C hW (runV (x := (g.2.2.1 13)) (As := [.int a0]) (rest := []) (T := ((J, L, I, P, E, N), sgM g)) C hW (c_X12_isPast l g J L I P E N H.size a0 hwm) mi_X12_isPast tw_1326 (recv_ (T := ((J, L, I, P, E, N), sgM g)) C hW (mm_ rfl) rfl rfl) ⟨rfl, rfl, Nat.le_of_ble_eq_true rfl, Nat.le_of_ble_eq_true rfl⟩ rfl hl.1 rfl (Nat.le_of_ble_eq_true rfl) dX12_minuteOf_2 ⟨Nat.le_of_ble_eq_true rfl, Nat.le_of_ble_eq_true rfl⟩) (fun r1 u1 H locs hp1 hW => ?_)
  have hc1 : ((r1.toInt = 1 ∧ (0 ≤ a0.toInt ∧ a0.toInt < (J 13 31).toInt)) ∨ (r1.toInt = 0 ∧ (¬ (0 ≤ a0.toInt ∧ a0.toInt < (J 13 31).toInt)))) := hp1
  clear hp1
  have hW : WB g A s.heap H locs (J, L, I, P, E, N) (sgM g) := hW
  refine lv_if_ne (tgt := 14) hx hb dX12_minuteOf_5 (by decide) (fun c2 => ?_) (fun c2 => ?_)
  · have c2 : ¬ r1.toInt = 0 := tne rfl kp0 c2
    refine lv_iload_n hx hb dX12_minuteOf_14 rfl (lv_at hl 2 rfl) ?_
    rcases Int.lt_or_le a1.toInt 0 with c3 | c3
    · refine lv_tableOut (tgt := 113) hx hb dX12_minuteOf_15 (Or.inl c3) (by decide) ?_
      refine lv_aload_n hx hb dX12_minuteOf_113 rfl (lv_at hl 0 rfl) ?_
      refine lv_bipush (v := (-2)) hx hb dX12_minuteOf_114 (by decide) ?_
      refine ci_ C hW (runV (x := (g.2.2.1 13)) (As := [.int (-2)]) (rest := []) (T := ((J, L, I, P, E, N), sgM g)) C hW (c_X12_refuse l g J L I P E N H.size (-2) (show -6 ≤ (-2 : Int32).toInt ∧ (-2 : Int32).toInt ≤ -1 from by (try simp only [kn2]); omega)) mi_X12_refuse tw_1239 (recv_ (T := ((J, L, I, P, E, N), sgM g)) C hW (mm_ rfl) rfl rfl) ⟨rfl, rfl, Nat.le_of_ble_eq_true rfl, Nat.le_of_ble_eq_true rfl⟩ rfl hl.1 rfl (Nat.le_of_ble_eq_true rfl) dX12_minuteOf_116 ⟨Nat.le_of_ble_eq_true rfl, Nat.le_of_ble_eq_true rfl⟩) (fun r4 u4 H locs hp4 hW => ?_)
      have hc4 : ((r4 = (-2))) := hp4
      clear hp4
      have hr4 : r4.toInt = (-2) := by rw [hc4]; exact kn2
      have hW : WB g A s.heap H locs ((hv J [100] [] u4), L, I, P, E, N) (sgM g) := hW
      have hWr : WB g A s.heap H locs (hv J [100, 146, 150, 151, 152] [(13, 47), (13, 48)] (hv J [100] [] u4), L, I, P, E, N) (sgM g) := by
        rw [← ag_hvE (J := J) (R := [100, 146, 150, 151, 152]) (F := [(13, 47), (13, 48)]) (ag_hv rfl rfl ag_rf)]
        exact hW
      subst hQ9
      exact end_i C hr hlocks (hv J [100] [] u4) hWr ⟨by first | exact Or.inr (Or.inl ⟨by omega, by omega⟩), show CAC (hv J [100, 146, 150, 151, 152] [(13, 47), (13, 48)] (hv J [100] [] u4)) from by (rw [← ag_hvE (J := J) (R := [100, 146, 150, 151, 152]) (F := [(13, 47), (13, 48)]) (ag_hv rfl rfl ag_rf)]; exact cac_e (J := J) ⟨rfl, rfl, rfl, rfl, rfl, rfl, rfl, rfl, rfl, rfl, rfl, rfl, rfl, rfl, rfl, rfl, rfl, rfl, rfl, rfl⟩ rfl rfl rfl hcac)⟩ dX12_minuteOf_119
    · rcases Int.lt_or_le 6 a1.toInt with c3b | c3b
      · refine lv_tableOut (tgt := 113) hx hb dX12_minuteOf_15 (Or.inr c3b) (by decide) ?_
        refine lv_aload_n hx hb dX12_minuteOf_113 rfl (lv_at hl 0 rfl) ?_
        refine lv_bipush (v := (-2)) hx hb dX12_minuteOf_114 (by decide) ?_
        refine ci_ C hW (runV (x := (g.2.2.1 13)) (As := [.int (-2)]) (rest := []) (T := ((J, L, I, P, E, N), sgM g)) C hW (c_X12_refuse l g J L I P E N H.size (-2) (show -6 ≤ (-2 : Int32).toInt ∧ (-2 : Int32).toInt ≤ -1 from by (try simp only [kn2]); omega)) mi_X12_refuse tw_1239 (recv_ (T := ((J, L, I, P, E, N), sgM g)) C hW (mm_ rfl) rfl rfl) ⟨rfl, rfl, Nat.le_of_ble_eq_true rfl, Nat.le_of_ble_eq_true rfl⟩ rfl hl.1 rfl (Nat.le_of_ble_eq_true rfl) dX12_minuteOf_116 ⟨Nat.le_of_ble_eq_true rfl, Nat.le_of_ble_eq_true rfl⟩) (fun r5 u5 H locs hp5 hW => ?_)
        have hc5 : ((r5 = (-2))) := hp5
        clear hp5
        have hr5 : r5.toInt = (-2) := by rw [hc5]; exact kn2
        have hW : WB g A s.heap H locs ((hv J [100] [] u5), L, I, P, E, N) (sgM g) := hW
        have hWr : WB g A s.heap H locs (hv J [100, 146, 150, 151, 152] [(13, 47), (13, 48)] (hv J [100] [] u5), L, I, P, E, N) (sgM g) := by
          rw [← ag_hvE (J := J) (R := [100, 146, 150, 151, 152]) (F := [(13, 47), (13, 48)]) (ag_hv rfl rfl ag_rf)]
          exact hW
        subst hQ9
        exact end_i C hr hlocks (hv J [100] [] u5) hWr ⟨by first | exact Or.inr (Or.inl ⟨by omega, by omega⟩), show CAC (hv J [100, 146, 150, 151, 152] [(13, 47), (13, 48)] (hv J [100] [] u5)) from by (rw [← ag_hvE (J := J) (R := [100, 146, 150, 151, 152]) (F := [(13, 47), (13, 48)]) (ag_hv rfl rfl ag_rf)]; exact cac_e (J := J) ⟨rfl, rfl, rfl, rfl, rfl, rfl, rfl, rfl, rfl, rfl, rfl, rfl, rfl, rfl, rfl, rfl, rfl, rfl, rfl, rfl⟩ rfl rfl rfl hcac)⟩ dX12_minuteOf_119
      · rcases (show a1.toInt = 0 ∨ a1.toInt = 1 ∨ a1.toInt = 2 ∨ a1.toInt = 3 ∨ a1.toInt = 4 ∨ a1.toInt = 5 ∨ a1.toInt = 6 by omega) with c3k | c3k | c3k | c3k | c3k | c3k | c3k
        · refine lv_tableIn (off := 41) (tgt := 56) hx hb dX12_minuteOf_15 (Int.not_lt.mpr c3) (Int.not_lt.mpr c3b) (by rw [c3k]; rfl) (by decide) ?_
          refine lv_aload_n hx hb dX12_minuteOf_56 rfl (lv_at hl 0 rfl) ?_
          refine rg_13_16 C hW (mm_ rfl) tw_1039 dX12_minuteOf_57 ?_
          refine lv_iload_n hx hb dX12_minuteOf_60 rfl (lv_at hl 1 rfl) ?_
          have hin : vp_in a0 10000 := tin rfl (by omega)
          refine ra_116 C hW (mm_ rfl) hin dX12_minuteOf_61 ?_
          refine lv_topi (fun x6 (e6 : x6 = J 116 a0.toNatClampNeg) => ?_)
          have hWr : WB g A s.heap H locs (hv J [100, 146, 150, 151, 152] [(13, 47), (13, 48)] J, L, I, P, E, N) (sgM g) := by
            rw [← ag_hvE (J := J) (R := [100, 146, 150, 151, 152]) (F := [(13, 47), (13, 48)]) ag_rf]
            exact hW
          subst hQ9
          exact end_i C hr hlocks J hWr ⟨by first | exact Or.inr (Or.inr (Or.inl ⟨by first | rfl | assumption, by omega⟩)), show CAC (hv J [100, 146, 150, 151, 152] [(13, 47), (13, 48)] J) from by (rw [← ag_hvE (J := J) (R := [100, 146, 150, 151, 152]) (F := [(13, 47), (13, 48)]) ag_rf]; exact cac_e (J := J) ⟨rfl, rfl, rfl, rfl, rfl, rfl, rfl, rfl, rfl, rfl, rfl, rfl, rfl, rfl, rfl, rfl, rfl, rfl, rfl, rfl⟩ rfl rfl rfl hcac)⟩ dX12_minuteOf_62
        · refine lv_tableIn (off := 48) (tgt := 63) hx hb dX12_minuteOf_15 (Int.not_lt.mpr c3) (Int.not_lt.mpr c3b) (by rw [c3k]; rfl) (by decide) ?_
          refine lv_aload_n hx hb dX12_minuteOf_63 rfl (lv_at hl 0 rfl) ?_
          refine rg_13_17 C hW (mm_ rfl) tw_1040 dX12_minuteOf_64 ?_
          refine lv_iload_n hx hb dX12_minuteOf_67 rfl (lv_at hl 1 rfl) ?_
          have hin : vp_in a0 10000 := tin rfl (by omega)
          refine ra_117 C hW (mm_ rfl) hin dX12_minuteOf_68 ?_
          refine lv_topi (fun x7 (e7 : x7 = J 117 a0.toNatClampNeg) => ?_)
          have hWr : WB g A s.heap H locs (hv J [100, 146, 150, 151, 152] [(13, 47), (13, 48)] J, L, I, P, E, N) (sgM g) := by
            rw [← ag_hvE (J := J) (R := [100, 146, 150, 151, 152]) (F := [(13, 47), (13, 48)]) ag_rf]
            exact hW
          subst hQ9
          exact end_i C hr hlocks J hWr ⟨by first | exact Or.inr (Or.inr (Or.inr (Or.inl ⟨by first | rfl | assumption, by omega⟩))), show CAC (hv J [100, 146, 150, 151, 152] [(13, 47), (13, 48)] J) from by (rw [← ag_hvE (J := J) (R := [100, 146, 150, 151, 152]) (F := [(13, 47), (13, 48)]) ag_rf]; exact cac_e (J := J) ⟨rfl, rfl, rfl, rfl, rfl, rfl, rfl, rfl, rfl, rfl, rfl, rfl, rfl, rfl, rfl, rfl, rfl, rfl, rfl, rfl⟩ rfl rfl rfl hcac)⟩ dX12_minuteOf_69
        · refine lv_tableIn (off := 55) (tgt := 70) hx hb dX12_minuteOf_15 (Int.not_lt.mpr c3) (Int.not_lt.mpr c3b) (by rw [c3k]; rfl) (by decide) ?_
          refine lv_aload_n hx hb dX12_minuteOf_70 rfl (lv_at hl 0 rfl) ?_
          refine rg_13_18 C hW (mm_ rfl) tw_1041 dX12_minuteOf_71 ?_
          refine lv_iload_n hx hb dX12_minuteOf_74 rfl (lv_at hl 1 rfl) ?_
          have hin : vp_in a0 10000 := tin rfl (by omega)
          refine ra_118 C hW (mm_ rfl) hin dX12_minuteOf_75 ?_
          refine lv_topi (fun x8 (e8 : x8 = J 118 a0.toNatClampNeg) => ?_)
          have hWr : WB g A s.heap H locs (hv J [100, 146, 150, 151, 152] [(13, 47), (13, 48)] J, L, I, P, E, N) (sgM g) := by
            rw [← ag_hvE (J := J) (R := [100, 146, 150, 151, 152]) (F := [(13, 47), (13, 48)]) ag_rf]
            exact hW
          subst hQ9
          exact end_i C hr hlocks J hWr ⟨by first | exact Or.inr (Or.inr (Or.inr (Or.inr (Or.inl ⟨by first | rfl | assumption, by omega⟩)))), show CAC (hv J [100, 146, 150, 151, 152] [(13, 47), (13, 48)] J) from by (rw [← ag_hvE (J := J) (R := [100, 146, 150, 151, 152]) (F := [(13, 47), (13, 48)]) ag_rf]; exact cac_e (J := J) ⟨rfl, rfl, rfl, rfl, rfl, rfl, rfl, rfl, rfl, rfl, rfl, rfl, rfl, rfl, rfl, rfl, rfl, rfl, rfl, rfl⟩ rfl rfl rfl hcac)⟩ dX12_minuteOf_76
        · refine lv_tableIn (off := 62) (tgt := 77) hx hb dX12_minuteOf_15 (Int.not_lt.mpr c3) (Int.not_lt.mpr c3b) (by rw [c3k]; rfl) (by decide) ?_
          refine lv_aload_n hx hb dX12_minuteOf_77 rfl (lv_at hl 0 rfl) ?_
          refine rg_13_19 C hW (mm_ rfl) tw_1042 dX12_minuteOf_78 ?_
          refine lv_iload_n hx hb dX12_minuteOf_81 rfl (lv_at hl 1 rfl) ?_
          have hin : vp_in a0 10000 := tin rfl (by omega)
          refine ra_119 C hW (mm_ rfl) hin dX12_minuteOf_82 ?_
          refine lv_topi (fun x9 (e9 : x9 = J 119 a0.toNatClampNeg) => ?_)
          have hWr : WB g A s.heap H locs (hv J [100, 146, 150, 151, 152] [(13, 47), (13, 48)] J, L, I, P, E, N) (sgM g) := by
            rw [← ag_hvE (J := J) (R := [100, 146, 150, 151, 152]) (F := [(13, 47), (13, 48)]) ag_rf]
            exact hW
          subst hQ9
          exact end_i C hr hlocks J hWr ⟨by first | exact Or.inr (Or.inr (Or.inr (Or.inr (Or.inr (Or.inl ⟨by first | rfl | assumption, by omega⟩))))), show CAC (hv J [100, 146, 150, 151, 152] [(13, 47), (13, 48)] J) from by (rw [← ag_hvE (J := J) (R := [100, 146, 150, 151, 152]) (F := [(13, 47), (13, 48)]) ag_rf]; exact cac_e (J := J) ⟨rfl, rfl, rfl, rfl, rfl, rfl, rfl, rfl, rfl, rfl, rfl, rfl, rfl, rfl, rfl, rfl, rfl, rfl, rfl, rfl⟩ rfl rfl rfl hcac)⟩ dX12_minuteOf_83
        · refine lv_tableIn (off := 69) (tgt := 84) hx hb dX12_minuteOf_15 (Int.not_lt.mpr c3) (Int.not_lt.mpr c3b) (by rw [c3k]; rfl) (by decide) ?_
          refine lv_aload_n hx hb dX12_minuteOf_84 rfl (lv_at hl 0 rfl) ?_
          refine lv_iload_n hx hb dX12_minuteOf_85 rfl (lv_at hl 1 rfl) ?_
          refine cv_ C hW (runV (x := (g.2.2.1 13)) (As := [.int a0]) (rest := []) (T := ((J, L, I, P, E, N), sgM g)) C hW (c_X12_counts_e l g J L I P E N H.size a0 hwm (show 0 ≤ a0.toInt ∧ a0.toInt < 10000 from by omega) (show a0.toInt < (J 13 31).toInt from by omega) (show CAC J from hcac)) mi_X12_counts tw_1390 (recv_ (T := ((J, L, I, P, E, N), sgM g)) C hW (mm_ rfl) rfl rfl) ⟨rfl, rfl, Nat.le_of_ble_eq_true rfl, Nat.le_of_ble_eq_true rfl⟩ rfl hl.1 rfl (Nat.le_of_ble_eq_true rfl) dX12_minuteOf_86 ⟨Nat.le_of_ble_eq_true rfl, Nat.le_of_ble_eq_true rfl⟩) (fun u10 H locs hp10 hW => ?_)
          obtain ⟨hf10_0, hf10_1, hf10_2⟩ : ((J 116 a0.toNatClampNeg).toInt = 6 → (u10 13 47).toInt = 0 ∧ (u10 13 48).toInt = 0) ∧ (¬ (J 116 a0.toNatClampNeg).toInt = 6 → CAV J a0.toNatClampNeg (u10 13 47).toInt (u10 13 48).toInt) ∧ (CAC (hv J [146, 150, 151, 152] [(13, 47), (13, 48)] u10)) := hp10
          have hW : WB g A s.heap H locs ((hv J [146, 150, 151, 152] [(13, 47), (13, 48)] u10), L, I, P, E, N) (sgM g) := hW
          have hC0 := hf10_0
          have hC1 := hf10_1
          have hC2 := hf10_2
          refine lv_iload_n hx hb dX12_minuteOf_89 rfl (lv_at hl 2 rfl) ?_
          refine lv_iconst (v := 4) hx hb dX12_minuteOf_90 (by decide) ?_
          refine lv_icmp_ne (tgt := 101) hx hb dX12_minuteOf_91 (by decide) (fun c11 => ?_) (fun c11 => ?_)
          · have c11 : ¬ a1.toInt = 4 := tne rfl kp4 c11
            refine lv_aload_n hx hb dX12_minuteOf_101 rfl (lv_at hl 0 rfl) ?_
            refine rg_13_48 C hW (mm_ rfl) tw_1071 dX12_minuteOf_102 ?_
            refine lv_as (u10 13 48) rfl ?_
            have hWr : WB g A s.heap H locs (hv J [100, 146, 150, 151, 152] [(13, 47), (13, 48)] (hv J [146, 150, 151, 152] [(13, 47), (13, 48)] u10), L, I, P, E, N) (sgM g) := by
              rw [← ag_hvE (J := J) (R := [100, 146, 150, 151, 152]) (F := [(13, 47), (13, 48)]) (ag_hv rfl rfl ag_rf)]
              exact hW
            subst hQ9
            exact end_i C hr hlocks (hv J [146, 150, 151, 152] [(13, 47), (13, 48)] u10) hWr ⟨by first | exact Or.inr (Or.inr (Or.inr (Or.inr (Or.inr (Or.inr (Or.inr (Or.inl ⟨by first | rfl | assumption, by omega, show ((J 116 a0.toNatClampNeg).toInt = 6 → (u10 13 48).toInt = 0) from (by first | exact fun h6 => (hC0 h6).1 | exact fun h6 => ⟨_, hC1 h6⟩), show (¬ (J 116 a0.toNatClampNeg).toInt = 6 → ∃ o : Int, CAV J a0.toNatClampNeg (u10 13 48).toInt o) from (by first | exact fun h6 => (hC0 h6).1 | exact fun h6 => ⟨_, hC1 h6⟩)⟩))))))) | exact Or.inr (Or.inr (Or.inr (Or.inr (Or.inr (Or.inr (Or.inr (Or.inr (⟨by first | rfl | assumption, by omega, show ((J 116 a0.toNatClampNeg).toInt = 6 → (u10 13 48).toInt = 0) from (by first | exact fun h6 => (hC0 h6).2 | exact fun h6 => ⟨_, hC1 h6⟩), show (¬ (J 116 a0.toNatClampNeg).toInt = 6 → ∃ s : Int, CAV J a0.toNatClampNeg s (u10 13 48).toInt) from (by first | exact fun h6 => (hC0 h6).2 | exact fun h6 => ⟨_, hC1 h6⟩)⟩)))))))), show CAC (hv J [100, 146, 150, 151, 152] [(13, 47), (13, 48)] (hv J [146, 150, 151, 152] [(13, 47), (13, 48)] u10)) from by (rw [← ag_hvE (J := J) (R := [100, 146, 150, 151, 152]) (F := [(13, 47), (13, 48)]) (ag_hv rfl rfl ag_rf)]; exact hC2)⟩ dX12_minuteOf_105
          · have c11 : a1.toInt = 4 := teq rfl kp4 c11
            refine lv_aload_n hx hb dX12_minuteOf_94 rfl (lv_at hl 0 rfl) ?_
            refine rg_13_47 C hW (mm_ rfl) tw_1070 dX12_minuteOf_95 ?_
            refine lv_as (u10 13 47) rfl ?_
            refine lv_goto (tgt := 105) hx hb dX12_minuteOf_98 (by decide) ?_
            have hWr : WB g A s.heap H locs (hv J [100, 146, 150, 151, 152] [(13, 47), (13, 48)] (hv J [146, 150, 151, 152] [(13, 47), (13, 48)] u10), L, I, P, E, N) (sgM g) := by
              rw [← ag_hvE (J := J) (R := [100, 146, 150, 151, 152]) (F := [(13, 47), (13, 48)]) (ag_hv rfl rfl ag_rf)]
              exact hW
            subst hQ9
            exact end_i C hr hlocks (hv J [146, 150, 151, 152] [(13, 47), (13, 48)] u10) hWr ⟨by first | exact Or.inr (Or.inr (Or.inr (Or.inr (Or.inr (Or.inr (Or.inr (Or.inl ⟨by first | rfl | assumption, by omega, show ((J 116 a0.toNatClampNeg).toInt = 6 → (u10 13 47).toInt = 0) from (by first | exact fun h6 => (hC0 h6).1 | exact fun h6 => ⟨_, hC1 h6⟩), show (¬ (J 116 a0.toNatClampNeg).toInt = 6 → ∃ o : Int, CAV J a0.toNatClampNeg (u10 13 47).toInt o) from (by first | exact fun h6 => (hC0 h6).1 | exact fun h6 => ⟨_, hC1 h6⟩)⟩))))))) | exact Or.inr (Or.inr (Or.inr (Or.inr (Or.inr (Or.inr (Or.inr (Or.inr (⟨by first | rfl | assumption, by omega, show ((J 116 a0.toNatClampNeg).toInt = 6 → (u10 13 47).toInt = 0) from (by first | exact fun h6 => (hC0 h6).2 | exact fun h6 => ⟨_, hC1 h6⟩), show (¬ (J 116 a0.toNatClampNeg).toInt = 6 → ∃ s : Int, CAV J a0.toNatClampNeg s (u10 13 47).toInt) from (by first | exact fun h6 => (hC0 h6).2 | exact fun h6 => ⟨_, hC1 h6⟩)⟩)))))))), show CAC (hv J [100, 146, 150, 151, 152] [(13, 47), (13, 48)] (hv J [146, 150, 151, 152] [(13, 47), (13, 48)] u10)) from by (rw [← ag_hvE (J := J) (R := [100, 146, 150, 151, 152]) (F := [(13, 47), (13, 48)]) (ag_hv rfl rfl ag_rf)]; exact hC2)⟩ dX12_minuteOf_105
        · refine lv_tableIn (off := 69) (tgt := 84) hx hb dX12_minuteOf_15 (Int.not_lt.mpr c3) (Int.not_lt.mpr c3b) (by rw [c3k]; rfl) (by decide) ?_
          refine lv_aload_n hx hb dX12_minuteOf_84 rfl (lv_at hl 0 rfl) ?_
          refine lv_iload_n hx hb dX12_minuteOf_85 rfl (lv_at hl 1 rfl) ?_
          refine cv_ C hW (runV (x := (g.2.2.1 13)) (As := [.int a0]) (rest := []) (T := ((J, L, I, P, E, N), sgM g)) C hW (c_X12_counts_e l g J L I P E N H.size a0 hwm (show 0 ≤ a0.toInt ∧ a0.toInt < 10000 from by omega) (show a0.toInt < (J 13 31).toInt from by omega) (show CAC J from hcac)) mi_X12_counts tw_1390 (recv_ (T := ((J, L, I, P, E, N), sgM g)) C hW (mm_ rfl) rfl rfl) ⟨rfl, rfl, Nat.le_of_ble_eq_true rfl, Nat.le_of_ble_eq_true rfl⟩ rfl hl.1 rfl (Nat.le_of_ble_eq_true rfl) dX12_minuteOf_86 ⟨Nat.le_of_ble_eq_true rfl, Nat.le_of_ble_eq_true rfl⟩) (fun u12 H locs hp12 hW => ?_)
          obtain ⟨hf12_0, hf12_1, hf12_2⟩ : ((J 116 a0.toNatClampNeg).toInt = 6 → (u12 13 47).toInt = 0 ∧ (u12 13 48).toInt = 0) ∧ (¬ (J 116 a0.toNatClampNeg).toInt = 6 → CAV J a0.toNatClampNeg (u12 13 47).toInt (u12 13 48).toInt) ∧ (CAC (hv J [146, 150, 151, 152] [(13, 47), (13, 48)] u12)) := hp12
          have hW : WB g A s.heap H locs ((hv J [146, 150, 151, 152] [(13, 47), (13, 48)] u12), L, I, P, E, N) (sgM g) := hW
          have hC0 := hf12_0
          have hC1 := hf12_1
          have hC2 := hf12_2
          refine lv_iload_n hx hb dX12_minuteOf_89 rfl (lv_at hl 2 rfl) ?_
          refine lv_iconst (v := 4) hx hb dX12_minuteOf_90 (by decide) ?_
          refine lv_icmp_ne (tgt := 101) hx hb dX12_minuteOf_91 (by decide) (fun c13 => ?_) (fun c13 => ?_)
          · have c13 : ¬ a1.toInt = 4 := tne rfl kp4 c13
            refine lv_aload_n hx hb dX12_minuteOf_101 rfl (lv_at hl 0 rfl) ?_
            refine rg_13_48 C hW (mm_ rfl) tw_1071 dX12_minuteOf_102 ?_
            refine lv_as (u12 13 48) rfl ?_
            have hWr : WB g A s.heap H locs (hv J [100, 146, 150, 151, 152] [(13, 47), (13, 48)] (hv J [146, 150, 151, 152] [(13, 47), (13, 48)] u12), L, I, P, E, N) (sgM g) := by
              rw [← ag_hvE (J := J) (R := [100, 146, 150, 151, 152]) (F := [(13, 47), (13, 48)]) (ag_hv rfl rfl ag_rf)]
              exact hW
            subst hQ9
            exact end_i C hr hlocks (hv J [146, 150, 151, 152] [(13, 47), (13, 48)] u12) hWr ⟨by first | exact Or.inr (Or.inr (Or.inr (Or.inr (Or.inr (Or.inr (Or.inr (Or.inl ⟨by first | rfl | assumption, by omega, show ((J 116 a0.toNatClampNeg).toInt = 6 → (u12 13 48).toInt = 0) from (by first | exact fun h6 => (hC0 h6).1 | exact fun h6 => ⟨_, hC1 h6⟩), show (¬ (J 116 a0.toNatClampNeg).toInt = 6 → ∃ o : Int, CAV J a0.toNatClampNeg (u12 13 48).toInt o) from (by first | exact fun h6 => (hC0 h6).1 | exact fun h6 => ⟨_, hC1 h6⟩)⟩))))))) | exact Or.inr (Or.inr (Or.inr (Or.inr (Or.inr (Or.inr (Or.inr (Or.inr (⟨by first | rfl | assumption, by omega, show ((J 116 a0.toNatClampNeg).toInt = 6 → (u12 13 48).toInt = 0) from (by first | exact fun h6 => (hC0 h6).2 | exact fun h6 => ⟨_, hC1 h6⟩), show (¬ (J 116 a0.toNatClampNeg).toInt = 6 → ∃ s : Int, CAV J a0.toNatClampNeg s (u12 13 48).toInt) from (by first | exact fun h6 => (hC0 h6).2 | exact fun h6 => ⟨_, hC1 h6⟩)⟩)))))))), show CAC (hv J [100, 146, 150, 151, 152] [(13, 47), (13, 48)] (hv J [146, 150, 151, 152] [(13, 47), (13, 48)] u12)) from by (rw [← ag_hvE (J := J) (R := [100, 146, 150, 151, 152]) (F := [(13, 47), (13, 48)]) (ag_hv rfl rfl ag_rf)]; exact hC2)⟩ dX12_minuteOf_105
          · have c13 : a1.toInt = 4 := teq rfl kp4 c13
            refine lv_aload_n hx hb dX12_minuteOf_94 rfl (lv_at hl 0 rfl) ?_
            refine rg_13_47 C hW (mm_ rfl) tw_1070 dX12_minuteOf_95 ?_
            refine lv_as (u12 13 47) rfl ?_
            refine lv_goto (tgt := 105) hx hb dX12_minuteOf_98 (by decide) ?_
            have hWr : WB g A s.heap H locs (hv J [100, 146, 150, 151, 152] [(13, 47), (13, 48)] (hv J [146, 150, 151, 152] [(13, 47), (13, 48)] u12), L, I, P, E, N) (sgM g) := by
              rw [← ag_hvE (J := J) (R := [100, 146, 150, 151, 152]) (F := [(13, 47), (13, 48)]) (ag_hv rfl rfl ag_rf)]
              exact hW
            subst hQ9
            exact end_i C hr hlocks (hv J [146, 150, 151, 152] [(13, 47), (13, 48)] u12) hWr ⟨by first | exact Or.inr (Or.inr (Or.inr (Or.inr (Or.inr (Or.inr (Or.inr (Or.inl ⟨by first | rfl | assumption, by omega, show ((J 116 a0.toNatClampNeg).toInt = 6 → (u12 13 47).toInt = 0) from (by first | exact fun h6 => (hC0 h6).1 | exact fun h6 => ⟨_, hC1 h6⟩), show (¬ (J 116 a0.toNatClampNeg).toInt = 6 → ∃ o : Int, CAV J a0.toNatClampNeg (u12 13 47).toInt o) from (by first | exact fun h6 => (hC0 h6).1 | exact fun h6 => ⟨_, hC1 h6⟩)⟩))))))) | exact Or.inr (Or.inr (Or.inr (Or.inr (Or.inr (Or.inr (Or.inr (Or.inr (⟨by first | rfl | assumption, by omega, show ((J 116 a0.toNatClampNeg).toInt = 6 → (u12 13 47).toInt = 0) from (by first | exact fun h6 => (hC0 h6).2 | exact fun h6 => ⟨_, hC1 h6⟩), show (¬ (J 116 a0.toNatClampNeg).toInt = 6 → ∃ s : Int, CAV J a0.toNatClampNeg s (u12 13 47).toInt) from (by first | exact fun h6 => (hC0 h6).2 | exact fun h6 => ⟨_, hC1 h6⟩)⟩)))))))), show CAC (hv J [100, 146, 150, 151, 152] [(13, 47), (13, 48)] (hv J [146, 150, 151, 152] [(13, 47), (13, 48)] u12)) from by (rw [← ag_hvE (J := J) (R := [100, 146, 150, 151, 152]) (F := [(13, 47), (13, 48)]) (ag_hv rfl rfl ag_rf)]; exact hC2)⟩ dX12_minuteOf_105
        · refine lv_tableIn (off := 91) (tgt := 106) hx hb dX12_minuteOf_15 (Int.not_lt.mpr c3) (Int.not_lt.mpr c3b) (by rw [c3k]; rfl) (by decide) ?_
          refine lv_aload_n hx hb dX12_minuteOf_106 rfl (lv_at hl 0 rfl) ?_
          refine rg_13_20 C hW (mm_ rfl) tw_1043 dX12_minuteOf_107 ?_
          refine lv_iload_n hx hb dX12_minuteOf_110 rfl (lv_at hl 1 rfl) ?_
          have hin : vp_in a0 10000 := tin rfl (by omega)
          refine ra_120 C hW (mm_ rfl) hin dX12_minuteOf_111 ?_
          refine lv_topi (fun x14 (e14 : x14 = J 120 a0.toNatClampNeg) => ?_)
          have hWr : WB g A s.heap H locs (hv J [100, 146, 150, 151, 152] [(13, 47), (13, 48)] J, L, I, P, E, N) (sgM g) := by
            rw [← ag_hvE (J := J) (R := [100, 146, 150, 151, 152]) (F := [(13, 47), (13, 48)]) ag_rf]
            exact hW
          subst hQ9
          exact end_i C hr hlocks J hWr ⟨by first | exact Or.inr (Or.inr (Or.inr (Or.inr (Or.inr (Or.inr (Or.inl ⟨by first | rfl | assumption, by omega⟩)))))), show CAC (hv J [100, 146, 150, 151, 152] [(13, 47), (13, 48)] J) from by (rw [← ag_hvE (J := J) (R := [100, 146, 150, 151, 152]) (F := [(13, 47), (13, 48)]) ag_rf]; exact cac_e (J := J) ⟨rfl, rfl, rfl, rfl, rfl, rfl, rfl, rfl, rfl, rfl, rfl, rfl, rfl, rfl, rfl, rfl, rfl, rfl, rfl, rfl⟩ rfl rfl rfl hcac)⟩ dX12_minuteOf_112
  · have c2 : r1.toInt = 0 := teq rfl kp0 c2
    refine lv_aload_n hx hb dX12_minuteOf_8 rfl (lv_at hl 0 rfl) ?_
    refine lv_iconst (v := (-1)) hx hb dX12_minuteOf_9 (by decide) ?_
    refine ci_ C hW (runV (x := (g.2.2.1 13)) (As := [.int (-1)]) (rest := []) (T := ((J, L, I, P, E, N), sgM g)) C hW (c_X12_refuse l g J L I P E N H.size (-1) (show -6 ≤ (-1 : Int32).toInt ∧ (-1 : Int32).toInt ≤ -1 from by (try simp only [kn1]); omega)) mi_X12_refuse tw_1239 (recv_ (T := ((J, L, I, P, E, N), sgM g)) C hW (mm_ rfl) rfl rfl) ⟨rfl, rfl, Nat.le_of_ble_eq_true rfl, Nat.le_of_ble_eq_true rfl⟩ rfl hl.1 rfl (Nat.le_of_ble_eq_true rfl) dX12_minuteOf_10 ⟨Nat.le_of_ble_eq_true rfl, Nat.le_of_ble_eq_true rfl⟩) (fun r15 u15 H locs hp15 hW => ?_)
    have hc15 : ((r15 = (-1))) := hp15
    clear hp15
    have hr15 : r15.toInt = (-1) := by rw [hc15]; exact kn1
    have hW : WB g A s.heap H locs ((hv J [100] [] u15), L, I, P, E, N) (sgM g) := hW
    have hWr : WB g A s.heap H locs (hv J [100, 146, 150, 151, 152] [(13, 47), (13, 48)] (hv J [100] [] u15), L, I, P, E, N) (sgM g) := by
      rw [← ag_hvE (J := J) (R := [100, 146, 150, 151, 152]) (F := [(13, 47), (13, 48)]) (ag_hv rfl rfl ag_rf)]
      exact hW
    subst hQ9
    exact end_i C hr hlocks (hv J [100] [] u15) hWr ⟨by first | exact Or.inl ⟨by omega, by omega⟩, show CAC (hv J [100, 146, 150, 151, 152] [(13, 47), (13, 48)] (hv J [100] [] u15)) from by (rw [← ag_hvE (J := J) (R := [100, 146, 150, 151, 152]) (F := [(13, 47), (13, 48)]) (ag_hv rfl rfl ag_rf)]; exact cac_e (J := J) ⟨rfl, rfl, rfl, rfl, rfl, rfl, rfl, rfl, rfl, rfl, rfl, rfl, rfl, rfl, rfl, rfl, rfl, rfl, rfl, rfl⟩ rfl rfl rfl hcac)⟩ dX12_minuteOf_13

set_option maxHeartbeats 4000000 in
set_option maxRecDepth 100000 in
theorem c_X12_node_t (l : Launch) (g : gG) (J : Nat → Nat → Int32) (L : Nat → Nat → Int64) (I : Nat → Nat → Nat → Int32) (P : Nat → Nat → Nat → Option Nat) (E : Nat → Option Nat) (N : Nat → Nat) (sz : Nat) (a0 : Int32) (a1 : Int32) (hwm : WM J) : Met l yX12_node (WS yX12_node cX12_node 4 (some .int)) (RM (3) 0 0) (PC g [.ref (g.2.2.1 13), .int a0, .int a1] ((J, L, I, P, E, N), sgM g) sz) (va_Qi (fun (r : Int32) (u : (Nat → Nat → Int32)) => WM (hv J [100, 101, 102] [(13, 32), (13, 49)] u) ∧ ((r.toInt = (-1) ∧ (¬ (0 ≤ a0.toInt ∧ a0.toInt < (J 13 32).toInt)) ∧ u 13 32 = J 13 32 ∧ u 101 = J 101 ∧ u 102 = J 102) ∨ (r.toInt = (-4) ∧ (0 ≤ a0.toInt ∧ a0.toInt < (J 13 32).toInt ∧ a1.toInt < 1) ∧ u 13 32 = J 13 32 ∧ u 101 = J 101 ∧ u 102 = J 102) ∨ (r.toInt = (-6) ∧ (0 ≤ a0.toInt ∧ a0.toInt < (J 13 32).toInt ∧ 1 ≤ a1.toInt ∧ (99 < a1.toInt ∨ (J 13 32).toInt = 20)) ∧ u 13 32 = J 13 32 ∧ u 101 = J 101 ∧ u 102 = J 102) ∨ (r.toInt = (J 13 32).toInt ∧ (0 ≤ a0.toInt ∧ a0.toInt < (J 13 32).toInt ∧ 1 ≤ a1.toInt ∧ a1.toInt ≤ 99 ∧ (J 13 32).toInt ≤ 19) ∧ (u 13 32).toInt = (J 13 32).toInt + 1 ∧ u 101 = up2 J 101 (J 13 32).toNatClampNeg a0 101 ∧ u 102 = up2 J 102 (J 13 32).toNatClampNeg a1 102)) ∧ ((u 13 49 = J 13 49 ∧ u 13 32 = J 13 32 ∧ u 101 = J 101 ∧ u 102 = J 102) ∨ u 13 49 = J 13 49 + 1)) (fun u t => at_ g (FR g ((J, L, I, P, E, N), sgM g) sz) ((hv J [100, 101, 102] [(13, 32), (13, 49)] u, L, I, P, E, N), sgM g) t) (FR g ((J, L, I, P, E, N), sgM g) sz)) 0 0 (FR g ((J, L, I, P, E, N), sgM g) sz) := by
  refine ent (by decide +kernel) (Nat.le_of_ble_eq_true rfl) ?_
  intro p e s m below meth c ls hsz C hW hr hlocks hname hl
  generalize FR g ((J, L, I, P, E, N), sgM g) sz = A at C hW ⊢
  generalize hQ9 : (va_Qi (fun (r : Int32) (u : (Nat → Nat → Int32)) => WM (hv J [100, 101, 102] [(13, 32), (13, 49)] u) ∧ ((r.toInt = (-1) ∧ (¬ (0 ≤ a0.toInt ∧ a0.toInt < (J 13 32).toInt)) ∧ u 13 32 = J 13 32 ∧ u 101 = J 101 ∧ u 102 = J 102) ∨ (r.toInt = (-4) ∧ (0 ≤ a0.toInt ∧ a0.toInt < (J 13 32).toInt ∧ a1.toInt < 1) ∧ u 13 32 = J 13 32 ∧ u 101 = J 101 ∧ u 102 = J 102) ∨ (r.toInt = (-6) ∧ (0 ≤ a0.toInt ∧ a0.toInt < (J 13 32).toInt ∧ 1 ≤ a1.toInt ∧ (99 < a1.toInt ∨ (J 13 32).toInt = 20)) ∧ u 13 32 = J 13 32 ∧ u 101 = J 101 ∧ u 102 = J 102) ∨ (r.toInt = (J 13 32).toInt ∧ (0 ≤ a0.toInt ∧ a0.toInt < (J 13 32).toInt ∧ 1 ≤ a1.toInt ∧ a1.toInt ≤ 99 ∧ (J 13 32).toInt ≤ 19) ∧ (u 13 32).toInt = (J 13 32).toInt + 1 ∧ u 101 = up2 J 101 (J 13 32).toNatClampNeg a0 101 ∧ u 102 = up2 J 102 (J 13 32).toNatClampNeg a1 102)) ∧ ((u 13 49 = J 13 49 ∧ u 13 32 = J 13 32 ∧ u 101 = J 101 ∧ u 102 = J 102) ∨ u 13 49 = J 13 49 + 1)) (fun u t => at_ g A ((hv J [100, 101, 102] [(13, 32), (13, 49)] u, L, I, P, E, N), sgM g) t) A) = Q9
  have hx := C.1.1
  have hb := C.1.2.1
  have hts := C.1.2.2.2.2
  have hW : WB g A s.heap s.heap [] (J, L, I, P, E, N) (sgM g) := hW
  have hl : lv_has ls 4 [(0, .ref (g.2.2.1 13)), (1, .int a0), (2, .int a1)] := hl
  obtain ⟨H, hH⟩ : ∃ H : Heap, H = s.heap := ⟨_, rfl⟩
  obtain ⟨locs, hlocs⟩ : ∃ q : List Loc, q = [] := ⟨_, rfl⟩
  have hW : WB g A s.heap H locs (J, L, I, P, E, N) (sgM g) := by rw [hH, hlocs]; exact hW
  obtain ⟨⟨hnd1, hnd2, hon, hhm1, hhm2, hhN, hcu1, hcu2, hco1, hco2, hcN⟩, ⟨hrd1, hrd2⟩, ⟨hnw1, hnw2, hns1, hns2, hof⟩, ⟨htm1, htm2, hts_⟩, ⟨had1, had2, hrw1, hrw2, htp1, htp2⟩⟩ := id hwm
  refine start_ hH hlocs ?_
  refine lv_aload_n hx hb dX12_node_0 rfl (lv_at hl 0 rfl) ?_
  refine lv_iload_n hx hb dX12_node_1 rfl (lv_at hl 1 rfl) ?_
  refine ci_ C hW (runV (x := (g.2.2.1 13)) (As := [.int a0]) (rest := []) (T := ((J, L, I, P, E, N), sgM g)) C hW (c_X12_isNode l g J L I P E N H.size a0 hwm) mi_X12_isNode tw_1251 (recv_ (T := ((J, L, I, P, E, N), sgM g)) C hW (mm_ rfl) rfl rfl) ⟨rfl, rfl, Nat.le_of_ble_eq_true rfl, Nat.le_of_ble_eq_true rfl⟩ rfl hl.1 rfl (Nat.le_of_ble_eq_true rfl) dX12_node_2 ⟨Nat.le_of_ble_eq_true rfl, Nat.le_of_ble_eq_true rfl⟩) (fun r1 u1 H locs hp1 hW => ?_)
  have hc1 : ((r1.toInt = 1 ∧ (0 ≤ a0.toInt ∧ a0.toInt < (J 13 32).toInt)) ∨ (r1.toInt = 0 ∧ (¬ (0 ≤ a0.toInt ∧ a0.toInt < (J 13 32).toInt)))) := hp1
  clear hp1
  have hW : WB g A s.heap H locs (J, L, I, P, E, N) (sgM g) := hW
  refine lv_if_ne (tgt := 14) hx hb dX12_node_5 (by decide) (fun c2 => ?_) (fun c2 => ?_)
  · have c2 : ¬ r1.toInt = 0 := tne rfl kp0 c2
    refine lv_iload_n hx hb dX12_node_14 rfl (lv_at hl 2 rfl) ?_
    refine lv_iconst (v := 1) hx hb dX12_node_15 (by decide) ?_
    refine lv_bipush (v := 99) hx hb dX12_node_16 (by decide) ?_
    refine ci_ C hW (runS (As := [.int a1, .int 1, .int 99]) (rest := []) (T := ((J, L, I, P, E, N), sgM g)) C hW (c_X12_within l g J L I P E N H.size a1 1 99 ) mi_X12_within tw_1258 ⟨rfl, rfl, Nat.le_of_ble_eq_true rfl, Nat.le_of_ble_eq_true rfl⟩ rfl hl.1 rfl (Nat.le_of_ble_eq_true rfl) dX12_node_18 ⟨Nat.le_of_ble_eq_true rfl, Nat.le_of_ble_eq_true rfl⟩) (fun r3 u3 H locs hp3 hW => ?_)
    have hc3 : ((r3.toInt = (-4) ∧ (a1.toInt < 1)) ∨ (r3.toInt = (-6) ∧ (1 ≤ a1.toInt ∧ 99 < a1.toInt)) ∨ (r3.toInt = 0 ∧ (1 ≤ a1.toInt ∧ a1.toInt ≤ 99))) := hp3
    clear hp3
    have hW : WB g A s.heap H locs (J, L, I, P, E, N) (sgM g) := hW
    refine lv_istore_n (lv' := [(3, .int r3), (0, .ref (g.2.2.1 13)), (1, .int a0), (2, .int a1)]) hx hb dX12_node_21 rfl hl (by decide) rfl (fun ls hl => ?_)
    refine lv_iload_n hx hb dX12_node_22 rfl (lv_at hl 0 rfl) ?_
    refine lv_if_ne (tgt := 38) hx hb dX12_node_23 (by decide) (fun c4 => ?_) (fun c4 => ?_)
    · have c4 : ¬ r3.toInt = 0 := tne rfl kp0 c4
      refine lv_iload_n hx hb dX12_node_38 rfl (lv_at hl 0 rfl) ?_
      refine lv_if_eq (tgt := 48) hx hb dX12_node_39 (by decide) (fun c5 => ?_) (fun c5 => ?_)
      · have c5 : r3.toInt = 0 := teq rfl kp0 c5
        exfalso; omega
      · have c5 : ¬ r3.toInt = 0 := tne rfl kp0 c5
        refine lv_aload_n hx hb dX12_node_42 rfl (lv_at hl 1 rfl) ?_
        refine lv_iload_n hx hb dX12_node_43 rfl (lv_at hl 0 rfl) ?_
        refine ci_ C hW (runV (x := (g.2.2.1 13)) (As := [.int r3]) (rest := []) (T := ((J, L, I, P, E, N), sgM g)) C hW (c_X12_refuse l g J L I P E N H.size r3 (show -6 ≤ r3.toInt ∧ r3.toInt ≤ -1 from by omega)) mi_X12_refuse tw_1239 (recv_ (T := ((J, L, I, P, E, N), sgM g)) C hW (mm_ rfl) rfl rfl) ⟨rfl, rfl, Nat.le_of_ble_eq_true rfl, Nat.le_of_ble_eq_true rfl⟩ rfl hl.1 rfl (Nat.le_of_ble_eq_true rfl) dX12_node_44 ⟨Nat.le_of_ble_eq_true rfl, Nat.le_of_ble_eq_true rfl⟩) (fun r6 u6 H locs hp6 hW => ?_)
        have hc6 : ((r6 = r3)) := hp6
        clear hp6
        have hr6 : r6.toInt = (r3).toInt := by rw [hc6]
        have hW : WB g A s.heap H locs ((hv J [100] [] u6), L, I, P, E, N) (sgM g) := hW
        have hWr : WB g A s.heap H locs (hv J [100, 101, 102] [(13, 32), (13, 49)] (hv J [100] [] u6), L, I, P, E, N) (sgM g) := by
          rw [← ag_hvE (J := J) (R := [100, 101, 102]) (F := [(13, 32), (13, 49)]) (ag_hv rfl rfl ag_rf)]
          exact hW
        have hwmr : WM (hv J [100] [] u6) := by exact hwm
        have hwmr : WM (hv J [100, 101, 102] [(13, 32), (13, 49)] (hv J [100] [] u6)) := by
          rw [← ag_hvE (J := J) (R := [100, 101, 102]) (F := [(13, 32), (13, 49)]) (ag_hv rfl rfl ag_rf)]; exact hwmr
        subst hQ9
        exact end_i C hr hlocks (hv J [100] [] u6) hWr ⟨hwmr, by first | exact Or.inl ⟨by omega, by omega, show J 13 32 = J 13 32 from by first | rfl | assumption, show J 101 = J 101 from by first | rfl | assumption, show J 102 = J 102 from by first | rfl | assumption⟩ | exact Or.inr (Or.inl ⟨by omega, by omega, show J 13 32 = J 13 32 from by first | rfl | assumption, show J 101 = J 101 from by first | rfl | assumption, show J 102 = J 102 from by first | rfl | assumption⟩) | exact Or.inr (Or.inr (Or.inl ⟨by omega, by omega, show J 13 32 = J 13 32 from by first | rfl | assumption, show J 101 = J 101 from by first | rfl | assumption, show J 102 = J 102 from by first | rfl | assumption⟩)) | exact Or.inr (Or.inr (Or.inr (⟨by omega, by omega, show (J 13 32).toInt = (J 13 32).toInt + 1 from by first | rfl | omega, show J 101 = up2 J 101 (J 13 32).toNatClampNeg a0 101 from by first | rfl | omega, show J 102 = up2 J 102 (J 13 32).toNatClampNeg a1 102 from by first | rfl | omega⟩))) | (rcases hc1 with qhc1 | qhc1 <;> rcases hc3 with qhc3 | qhc3 | qhc3 <;> first | exact Or.inl ⟨by omega, by omega, show J 13 32 = J 13 32 from by first | rfl | assumption, show J 101 = J 101 from by first | rfl | assumption, show J 102 = J 102 from by first | rfl | assumption⟩ | exact Or.inr (Or.inl ⟨by omega, by omega, show J 13 32 = J 13 32 from by first | rfl | assumption, show J 101 = J 101 from by first | rfl | assumption, show J 102 = J 102 from by first | rfl | assumption⟩) | exact Or.inr (Or.inr (Or.inl ⟨by omega, by omega, show J 13 32 = J 13 32 from by first | rfl | assumption, show J 101 = J 101 from by first | rfl | assumption, show J 102 = J 102 from by first | rfl | assumption⟩)) | exact Or.inr (Or.inr (Or.inr (⟨by omega, by omega, show (J 13 32).toInt = (J 13 32).toInt + 1 from by first | rfl | omega, show J 101 = up2 J 101 (J 13 32).toNatClampNeg a0 101 from by first | rfl | omega, show J 102 = up2 J 102 (J 13 32).toNatClampNeg a1 102 from by first | rfl | omega⟩))) | (exfalso; omega)), show (J 13 49 = J 13 49 ∧ J 13 32 = J 13 32 ∧ J 101 = J 101 ∧ J 102 = J 102) ∨ J 13 49 = J 13 49 + 1 from by first | exact Or.inl ⟨rfl, rfl, rfl, rfl⟩ | exact Or.inr (by assumption) | exact Or.inr rfl⟩ dX12_node_47
    · have c4 : r3.toInt = 0 := teq rfl kp0 c4
      refine lv_aload_n hx hb dX12_node_26 rfl (lv_at hl 1 rfl) ?_
      refine rg_13_32 C hW (mm_ rfl) tw_1055 dX12_node_27 ?_
      refine lv_bipush (v := 20) hx hb dX12_node_30 (by decide) ?_
      refine lv_icmp_ne (tgt := 38) hx hb dX12_node_32 (by decide) (fun c7 => ?_) (fun c7 => ?_)
      · have c7 : ¬ (J 13 32).toInt = 20 := tne rfl kp20 c7
        refine lv_iload_n hx hb dX12_node_38 rfl (lv_at hl 0 rfl) ?_
        refine lv_if_eq (tgt := 48) hx hb dX12_node_39 (by decide) (fun c8 => ?_) (fun c8 => ?_)
        · have c8 : r3.toInt = 0 := teq rfl kp0 c8
          refine lv_aload_n hx hb dX12_node_48 rfl (lv_at hl 1 rfl) ?_
          refine rg_13_1 C hW (mm_ rfl) tw_1024 dX12_node_49 ?_
          refine lv_aload_n hx hb dX12_node_52 rfl (lv_at hl 1 rfl) ?_
          refine rg_13_32 C hW (mm_ rfl) tw_1055 dX12_node_53 ?_
          refine lv_iload_n hx hb dX12_node_56 rfl (lv_at hl 2 rfl) ?_
          have hin : vp_in (J 13 32) 20 := tin rfl (by omega)
          refine rs_101 C hW (mm_ rfl) hin dX12_node_57 (fun H locs hW => ?_)
          refine lv_aload_n hx hb dX12_node_58 rfl (lv_at hl 1 rfl) ?_
          refine rg_13_2 C hW (mm_ rfl) tw_1025 dX12_node_59 ?_
          refine lv_aload_n hx hb dX12_node_62 rfl (lv_at hl 1 rfl) ?_
          refine rg_13_32 C hW (mm_ rfl) tw_1055 dX12_node_63 ?_
          refine lv_as (J 13 32) rfl ?_
          refine lv_iload_n hx hb dX12_node_66 rfl (lv_at hl 3 rfl) ?_
          have hin : vp_in (J 13 32) 20 := tin rfl (by omega)
          refine rs_102 C hW (mm_ rfl) hin dX12_node_67 (fun H locs hW => ?_)
          refine lv_aload_n hx hb dX12_node_68 rfl (lv_at hl 1 rfl) ?_
          refine lv_dup hx hb dX12_node_69 rfl ?_
          refine rg_13_32 C hW (mm_ rfl) tw_1055 dX12_node_70 ?_
          refine lv_as (J 13 32) rfl ?_
          refine lv_iconst (v := 1) hx hb dX12_node_73 (by decide) ?_
          refine lv_iadd hx hb dX12_node_74 ?_
          refine lv_topi (fun x9 (e9 : x9 = (J 13 32) + 1) => ?_)
          try have t9 : x9.toInt = (J 13 32).toInt + 1 := tadd e9 rfl kp1 (by omega)
          refine rp_13_32 C hW (mm_ rfl) tw_1055 dX12_node_75 (fun H locs hW => ?_)
          refine lv_aload_n hx hb dX12_node_78 rfl (lv_at hl 1 rfl) ?_
          refine lv_dup hx hb dX12_node_79 rfl ?_
          refine rg_13_49 C hW (mm_ rfl) tw_1072 dX12_node_80 ?_
          refine lv_as (J 13 49) rfl ?_
          refine lv_iconst (v := 1) hx hb dX12_node_83 (by decide) ?_
          refine lv_iadd hx hb dX12_node_84 ?_
          refine lv_topi (fun x10 (e10 : x10 = (J 13 49) + 1) => ?_)
          refine rp_13_49 C hW (mm_ rfl) tw_1072 dX12_node_85 (fun H locs hW => ?_)
          refine lv_aload_n hx hb dX12_node_88 rfl (lv_at hl 1 rfl) ?_
          refine rg_13_32 C hW (mm_ rfl) tw_1055 dX12_node_89 ?_
          refine lv_as x9 rfl ?_
          refine lv_iconst (v := 1) hx hb dX12_node_92 (by decide) ?_
          refine lv_isub hx hb dX12_node_93 ?_
          refine lv_topi (fun x11 (e11 : x11 = x9 - 1) => ?_)
          try have t11 : x11.toInt = x9.toInt - 1 := tsub e11 rfl kp1 (by omega)
          have hWr : WB g A s.heap H locs (hv J [100, 101, 102] [(13, 32), (13, 49)] (up2 (up2 (up2 (up2 J 101 ((J 13 32).toNatClampNeg) a0) 102 ((J 13 32).toNatClampNeg) a1) 13 32 x9) 13 49 x10), L, I, P, E, N) (sgM g) := by
            rw [← ag_hvE (J := J) (R := [100, 101, 102]) (F := [(13, 32), (13, 49)]) (ag_up (Or.inr rfl) (ag_up (Or.inr rfl) (ag_up (Or.inl rfl) (ag_up (Or.inl rfl) ag_rf))))]
            exact hW
          have hwmr : WM (up2 (up2 (up2 (up2 J 101 ((J 13 32).toNatClampNeg) a0) 102 ((J 13 32).toNatClampNeg) a1) 13 32 x9) 13 49 x10) := by exact wm_node hwm (tcl _) (by omega) (by omega) (by omega)
          have hwmr : WM (hv J [100, 101, 102] [(13, 32), (13, 49)] (up2 (up2 (up2 (up2 J 101 ((J 13 32).toNatClampNeg) a0) 102 ((J 13 32).toNatClampNeg) a1) 13 32 x9) 13 49 x10)) := by
            rw [← ag_hvE (J := J) (R := [100, 101, 102]) (F := [(13, 32), (13, 49)]) (ag_up (Or.inr rfl) (ag_up (Or.inr rfl) (ag_up (Or.inl rfl) (ag_up (Or.inl rfl) ag_rf))))]; exact hwmr
          subst hQ9
          exact end_i C hr hlocks (up2 (up2 (up2 (up2 J 101 ((J 13 32).toNatClampNeg) a0) 102 ((J 13 32).toNatClampNeg) a1) 13 32 x9) 13 49 x10) hWr ⟨hwmr, by first | exact Or.inl ⟨by omega, by omega, show x9 = J 13 32 from by first | rfl | assumption, show (up2 J 101 ((J 13 32).toNatClampNeg) a0) 101 = J 101 from by first | rfl | assumption, show (up2 J 102 ((J 13 32).toNatClampNeg) a1) 102 = J 102 from by first | rfl | assumption⟩ | exact Or.inr (Or.inl ⟨by omega, by omega, show x9 = J 13 32 from by first | rfl | assumption, show (up2 J 101 ((J 13 32).toNatClampNeg) a0) 101 = J 101 from by first | rfl | assumption, show (up2 J 102 ((J 13 32).toNatClampNeg) a1) 102 = J 102 from by first | rfl | assumption⟩) | exact Or.inr (Or.inr (Or.inl ⟨by omega, by omega, show x9 = J 13 32 from by first | rfl | assumption, show (up2 J 101 ((J 13 32).toNatClampNeg) a0) 101 = J 101 from by first | rfl | assumption, show (up2 J 102 ((J 13 32).toNatClampNeg) a1) 102 = J 102 from by first | rfl | assumption⟩)) | exact Or.inr (Or.inr (Or.inr (⟨by omega, by omega, show (x9).toInt = (J 13 32).toInt + 1 from by first | rfl | omega, show (up2 J 101 ((J 13 32).toNatClampNeg) a0) 101 = up2 J 101 (J 13 32).toNatClampNeg a0 101 from by first | rfl | omega, show (up2 J 102 ((J 13 32).toNatClampNeg) a1) 102 = up2 J 102 (J 13 32).toNatClampNeg a1 102 from by first | rfl | omega⟩))) | (rcases hc1 with qhc1 | qhc1 <;> rcases hc3 with qhc3 | qhc3 | qhc3 <;> first | exact Or.inl ⟨by omega, by omega, show x9 = J 13 32 from by first | rfl | assumption, show (up2 J 101 ((J 13 32).toNatClampNeg) a0) 101 = J 101 from by first | rfl | assumption, show (up2 J 102 ((J 13 32).toNatClampNeg) a1) 102 = J 102 from by first | rfl | assumption⟩ | exact Or.inr (Or.inl ⟨by omega, by omega, show x9 = J 13 32 from by first | rfl | assumption, show (up2 J 101 ((J 13 32).toNatClampNeg) a0) 101 = J 101 from by first | rfl | assumption, show (up2 J 102 ((J 13 32).toNatClampNeg) a1) 102 = J 102 from by first | rfl | assumption⟩) | exact Or.inr (Or.inr (Or.inl ⟨by omega, by omega, show x9 = J 13 32 from by first | rfl | assumption, show (up2 J 101 ((J 13 32).toNatClampNeg) a0) 101 = J 101 from by first | rfl | assumption, show (up2 J 102 ((J 13 32).toNatClampNeg) a1) 102 = J 102 from by first | rfl | assumption⟩)) | exact Or.inr (Or.inr (Or.inr (⟨by omega, by omega, show (x9).toInt = (J 13 32).toInt + 1 from by first | rfl | omega, show (up2 J 101 ((J 13 32).toNatClampNeg) a0) 101 = up2 J 101 (J 13 32).toNatClampNeg a0 101 from by first | rfl | omega, show (up2 J 102 ((J 13 32).toNatClampNeg) a1) 102 = up2 J 102 (J 13 32).toNatClampNeg a1 102 from by first | rfl | omega⟩))) | (exfalso; omega)), show (x10 = J 13 49 ∧ x9 = J 13 32 ∧ (up2 J 101 ((J 13 32).toNatClampNeg) a0) 101 = J 101 ∧ (up2 J 102 ((J 13 32).toNatClampNeg) a1) 102 = J 102) ∨ x10 = J 13 49 + 1 from by first | exact Or.inl ⟨rfl, rfl, rfl, rfl⟩ | exact Or.inr (by assumption) | exact Or.inr rfl⟩ dX12_node_94
        · have c8 : ¬ r3.toInt = 0 := tne rfl kp0 c8
          exfalso; omega
      · have c7 : (J 13 32).toInt = 20 := teq rfl kp20 c7
        refine lv_bipush (v := (-6)) hx hb dX12_node_35 (by decide) ?_
        refine lv_istore_n (lv' := [(3, .int (-6)), (0, .ref (g.2.2.1 13)), (1, .int a0), (2, .int a1)]) hx hb dX12_node_37 rfl hl (by decide) rfl (fun ls hl => ?_)
        refine lv_iload_n hx hb dX12_node_38 rfl (lv_at hl 0 rfl) ?_
        refine lv_if_eq (tgt := 48) hx hb dX12_node_39 (by decide) (fun c12 => ?_) (fun c12 => ?_)
        · exact absurd c12 (by decide)
        · skip
          refine lv_aload_n hx hb dX12_node_42 rfl (lv_at hl 1 rfl) ?_
          refine lv_iload_n hx hb dX12_node_43 rfl (lv_at hl 0 rfl) ?_
          refine ci_ C hW (runV (x := (g.2.2.1 13)) (As := [.int (-6)]) (rest := []) (T := ((J, L, I, P, E, N), sgM g)) C hW (c_X12_refuse l g J L I P E N H.size (-6) (show -6 ≤ (-6 : Int32).toInt ∧ (-6 : Int32).toInt ≤ -1 from by (try simp only [kn6]); omega)) mi_X12_refuse tw_1239 (recv_ (T := ((J, L, I, P, E, N), sgM g)) C hW (mm_ rfl) rfl rfl) ⟨rfl, rfl, Nat.le_of_ble_eq_true rfl, Nat.le_of_ble_eq_true rfl⟩ rfl hl.1 rfl (Nat.le_of_ble_eq_true rfl) dX12_node_44 ⟨Nat.le_of_ble_eq_true rfl, Nat.le_of_ble_eq_true rfl⟩) (fun r13 u13 H locs hp13 hW => ?_)
          have hc13 : ((r13 = (-6))) := hp13
          clear hp13
          have hr13 : r13.toInt = (-6) := by rw [hc13]; exact kn6
          have hW : WB g A s.heap H locs ((hv J [100] [] u13), L, I, P, E, N) (sgM g) := hW
          have hWr : WB g A s.heap H locs (hv J [100, 101, 102] [(13, 32), (13, 49)] (hv J [100] [] u13), L, I, P, E, N) (sgM g) := by
            rw [← ag_hvE (J := J) (R := [100, 101, 102]) (F := [(13, 32), (13, 49)]) (ag_hv rfl rfl ag_rf)]
            exact hW
          have hwmr : WM (hv J [100] [] u13) := by exact hwm
          have hwmr : WM (hv J [100, 101, 102] [(13, 32), (13, 49)] (hv J [100] [] u13)) := by
            rw [← ag_hvE (J := J) (R := [100, 101, 102]) (F := [(13, 32), (13, 49)]) (ag_hv rfl rfl ag_rf)]; exact hwmr
          subst hQ9
          exact end_i C hr hlocks (hv J [100] [] u13) hWr ⟨hwmr, by first | exact Or.inl ⟨by omega, by omega, show J 13 32 = J 13 32 from by first | rfl | assumption, show J 101 = J 101 from by first | rfl | assumption, show J 102 = J 102 from by first | rfl | assumption⟩ | exact Or.inr (Or.inl ⟨by omega, by omega, show J 13 32 = J 13 32 from by first | rfl | assumption, show J 101 = J 101 from by first | rfl | assumption, show J 102 = J 102 from by first | rfl | assumption⟩) | exact Or.inr (Or.inr (Or.inl ⟨by omega, by omega, show J 13 32 = J 13 32 from by first | rfl | assumption, show J 101 = J 101 from by first | rfl | assumption, show J 102 = J 102 from by first | rfl | assumption⟩)) | exact Or.inr (Or.inr (Or.inr (⟨by omega, by omega, show (J 13 32).toInt = (J 13 32).toInt + 1 from by first | rfl | omega, show J 101 = up2 J 101 (J 13 32).toNatClampNeg a0 101 from by first | rfl | omega, show J 102 = up2 J 102 (J 13 32).toNatClampNeg a1 102 from by first | rfl | omega⟩))) | (rcases hc1 with qhc1 | qhc1 <;> rcases hc3 with qhc3 | qhc3 | qhc3 <;> first | exact Or.inl ⟨by omega, by omega, show J 13 32 = J 13 32 from by first | rfl | assumption, show J 101 = J 101 from by first | rfl | assumption, show J 102 = J 102 from by first | rfl | assumption⟩ | exact Or.inr (Or.inl ⟨by omega, by omega, show J 13 32 = J 13 32 from by first | rfl | assumption, show J 101 = J 101 from by first | rfl | assumption, show J 102 = J 102 from by first | rfl | assumption⟩) | exact Or.inr (Or.inr (Or.inl ⟨by omega, by omega, show J 13 32 = J 13 32 from by first | rfl | assumption, show J 101 = J 101 from by first | rfl | assumption, show J 102 = J 102 from by first | rfl | assumption⟩)) | exact Or.inr (Or.inr (Or.inr (⟨by omega, by omega, show (J 13 32).toInt = (J 13 32).toInt + 1 from by first | rfl | omega, show J 101 = up2 J 101 (J 13 32).toNatClampNeg a0 101 from by first | rfl | omega, show J 102 = up2 J 102 (J 13 32).toNatClampNeg a1 102 from by first | rfl | omega⟩))) | (exfalso; omega)), show (J 13 49 = J 13 49 ∧ J 13 32 = J 13 32 ∧ J 101 = J 101 ∧ J 102 = J 102) ∨ J 13 49 = J 13 49 + 1 from by first | exact Or.inl ⟨rfl, rfl, rfl, rfl⟩ | exact Or.inr (by assumption) | exact Or.inr rfl⟩ dX12_node_47
  · have c2 : r1.toInt = 0 := teq rfl kp0 c2
    refine lv_aload_n hx hb dX12_node_8 rfl (lv_at hl 0 rfl) ?_
    refine lv_iconst (v := (-1)) hx hb dX12_node_9 (by decide) ?_
    refine ci_ C hW (runV (x := (g.2.2.1 13)) (As := [.int (-1)]) (rest := []) (T := ((J, L, I, P, E, N), sgM g)) C hW (c_X12_refuse l g J L I P E N H.size (-1) (show -6 ≤ (-1 : Int32).toInt ∧ (-1 : Int32).toInt ≤ -1 from by (try simp only [kn1]); omega)) mi_X12_refuse tw_1239 (recv_ (T := ((J, L, I, P, E, N), sgM g)) C hW (mm_ rfl) rfl rfl) ⟨rfl, rfl, Nat.le_of_ble_eq_true rfl, Nat.le_of_ble_eq_true rfl⟩ rfl hl.1 rfl (Nat.le_of_ble_eq_true rfl) dX12_node_10 ⟨Nat.le_of_ble_eq_true rfl, Nat.le_of_ble_eq_true rfl⟩) (fun r14 u14 H locs hp14 hW => ?_)
    have hc14 : ((r14 = (-1))) := hp14
    clear hp14
    have hr14 : r14.toInt = (-1) := by rw [hc14]; exact kn1
    have hW : WB g A s.heap H locs ((hv J [100] [] u14), L, I, P, E, N) (sgM g) := hW
    have hWr : WB g A s.heap H locs (hv J [100, 101, 102] [(13, 32), (13, 49)] (hv J [100] [] u14), L, I, P, E, N) (sgM g) := by
      rw [← ag_hvE (J := J) (R := [100, 101, 102]) (F := [(13, 32), (13, 49)]) (ag_hv rfl rfl ag_rf)]
      exact hW
    have hwmr : WM (hv J [100] [] u14) := by exact hwm
    have hwmr : WM (hv J [100, 101, 102] [(13, 32), (13, 49)] (hv J [100] [] u14)) := by
      rw [← ag_hvE (J := J) (R := [100, 101, 102]) (F := [(13, 32), (13, 49)]) (ag_hv rfl rfl ag_rf)]; exact hwmr
    subst hQ9
    exact end_i C hr hlocks (hv J [100] [] u14) hWr ⟨hwmr, by first | exact Or.inl ⟨by omega, by omega, show J 13 32 = J 13 32 from by first | rfl | assumption, show J 101 = J 101 from by first | rfl | assumption, show J 102 = J 102 from by first | rfl | assumption⟩ | exact Or.inr (Or.inl ⟨by omega, by omega, show J 13 32 = J 13 32 from by first | rfl | assumption, show J 101 = J 101 from by first | rfl | assumption, show J 102 = J 102 from by first | rfl | assumption⟩) | exact Or.inr (Or.inr (Or.inl ⟨by omega, by omega, show J 13 32 = J 13 32 from by first | rfl | assumption, show J 101 = J 101 from by first | rfl | assumption, show J 102 = J 102 from by first | rfl | assumption⟩)) | exact Or.inr (Or.inr (Or.inr (⟨by omega, by omega, show (J 13 32).toInt = (J 13 32).toInt + 1 from by first | rfl | omega, show J 101 = up2 J 101 (J 13 32).toNatClampNeg a0 101 from by first | rfl | omega, show J 102 = up2 J 102 (J 13 32).toNatClampNeg a1 102 from by first | rfl | omega⟩))) | (rcases hc1 with qhc1 | qhc1 <;> first | exact Or.inl ⟨by omega, by omega, show J 13 32 = J 13 32 from by first | rfl | assumption, show J 101 = J 101 from by first | rfl | assumption, show J 102 = J 102 from by first | rfl | assumption⟩ | exact Or.inr (Or.inl ⟨by omega, by omega, show J 13 32 = J 13 32 from by first | rfl | assumption, show J 101 = J 101 from by first | rfl | assumption, show J 102 = J 102 from by first | rfl | assumption⟩) | exact Or.inr (Or.inr (Or.inl ⟨by omega, by omega, show J 13 32 = J 13 32 from by first | rfl | assumption, show J 101 = J 101 from by first | rfl | assumption, show J 102 = J 102 from by first | rfl | assumption⟩)) | exact Or.inr (Or.inr (Or.inr (⟨by omega, by omega, show (J 13 32).toInt = (J 13 32).toInt + 1 from by first | rfl | omega, show J 101 = up2 J 101 (J 13 32).toNatClampNeg a0 101 from by first | rfl | omega, show J 102 = up2 J 102 (J 13 32).toNatClampNeg a1 102 from by first | rfl | omega⟩))) | (exfalso; omega)), show (J 13 49 = J 13 49 ∧ J 13 32 = J 13 32 ∧ J 101 = J 101 ∧ J 102 = J 102) ∨ J 13 49 = J 13 49 + 1 from by first | exact Or.inl ⟨rfl, rfl, rfl, rfl⟩ | exact Or.inr (by assumption) | exact Or.inr rfl⟩ dX12_node_13

set_option maxHeartbeats 4000000 in
set_option maxRecDepth 100000 in
theorem c_X12_boost_t (l : Launch) (g : gG) (J : Nat → Nat → Int32) (L : Nat → Nat → Int64) (I : Nat → Nat → Nat → Int32) (P : Nat → Nat → Nat → Option Nat) (E : Nat → Option Nat) (N : Nat → Nat) (sz : Nat) (a0 : Int32) (a1 : Int32) (hwm : WM J) : Met l yX12_boost (WS yX12_boost cX12_boost 5 (some .int)) (RM (3) 0 0) (PC g [.ref (g.2.2.1 13), .int a0, .int a1] ((J, L, I, P, E, N), sgM g) sz) (va_Qi (fun (r : Int32) (u : (Nat → Nat → Int32)) => ((r.toInt = (-1) ∧ (¬ (0 ≤ a0.toInt ∧ a0.toInt < (J 13 32).toInt)) ∧ u 103 = J 103) ∨ (r.toInt = (-4) ∧ (0 ≤ a0.toInt ∧ a0.toInt < (J 13 32).toInt ∧ a1.toInt < 0) ∧ u 103 = J 103) ∨ (r.toInt = (-6) ∧ (0 ≤ a0.toInt ∧ a0.toInt < (J 13 32).toInt ∧ 99 < a1.toInt) ∧ u 103 = J 103) ∨ (r = J 103 a0.toNatClampNeg ∧ (0 ≤ a0.toInt ∧ a0.toInt < (J 13 32).toInt ∧ 0 ≤ a1.toInt ∧ a1.toInt ≤ 99) ∧ u 103 = up2 J 103 a0.toNatClampNeg a1 103)) ∧ ((u 13 49 = J 13 49 ∧ u 103 = J 103) ∨ u 13 49 = J 13 49 + 1)) (fun u t => at_ g (FR g ((J, L, I, P, E, N), sgM g) sz) ((hv J [100, 103] [(13, 49)] u, L, I, P, E, N), sgM g) t) (FR g ((J, L, I, P, E, N), sgM g) sz)) 0 0 (FR g ((J, L, I, P, E, N), sgM g) sz) := by
  refine ent (by decide +kernel) (Nat.le_of_ble_eq_true rfl) ?_
  intro p e s m below meth c ls hsz C hW hr hlocks hname hl
  generalize FR g ((J, L, I, P, E, N), sgM g) sz = A at C hW ⊢
  generalize hQ9 : (va_Qi (fun (r : Int32) (u : (Nat → Nat → Int32)) => ((r.toInt = (-1) ∧ (¬ (0 ≤ a0.toInt ∧ a0.toInt < (J 13 32).toInt)) ∧ u 103 = J 103) ∨ (r.toInt = (-4) ∧ (0 ≤ a0.toInt ∧ a0.toInt < (J 13 32).toInt ∧ a1.toInt < 0) ∧ u 103 = J 103) ∨ (r.toInt = (-6) ∧ (0 ≤ a0.toInt ∧ a0.toInt < (J 13 32).toInt ∧ 99 < a1.toInt) ∧ u 103 = J 103) ∨ (r = J 103 a0.toNatClampNeg ∧ (0 ≤ a0.toInt ∧ a0.toInt < (J 13 32).toInt ∧ 0 ≤ a1.toInt ∧ a1.toInt ≤ 99) ∧ u 103 = up2 J 103 a0.toNatClampNeg a1 103)) ∧ ((u 13 49 = J 13 49 ∧ u 103 = J 103) ∨ u 13 49 = J 13 49 + 1)) (fun u t => at_ g A ((hv J [100, 103] [(13, 49)] u, L, I, P, E, N), sgM g) t) A) = Q9
  have hx := C.1.1
  have hb := C.1.2.1
  have hts := C.1.2.2.2.2
  have hW : WB g A s.heap s.heap [] (J, L, I, P, E, N) (sgM g) := hW
  have hl : lv_has ls 5 [(0, .ref (g.2.2.1 13)), (1, .int a0), (2, .int a1)] := hl
  obtain ⟨H, hH⟩ : ∃ H : Heap, H = s.heap := ⟨_, rfl⟩
  obtain ⟨locs, hlocs⟩ : ∃ q : List Loc, q = [] := ⟨_, rfl⟩
  have hW : WB g A s.heap H locs (J, L, I, P, E, N) (sgM g) := by rw [hH, hlocs]; exact hW
  obtain ⟨⟨hnd1, hnd2, hon, hhm1, hhm2, hhN, hcu1, hcu2, hco1, hco2, hcN⟩, ⟨hrd1, hrd2⟩, ⟨hnw1, hnw2, hns1, hns2, hof⟩, ⟨htm1, htm2, hts_⟩, ⟨had1, had2, hrw1, hrw2, htp1, htp2⟩⟩ := id hwm
  refine start_ hH hlocs ?_
  refine lv_aload_n hx hb dX12_boost_0 rfl (lv_at hl 0 rfl) ?_
  refine lv_iload_n hx hb dX12_boost_1 rfl (lv_at hl 1 rfl) ?_
  refine ci_ C hW (runV (x := (g.2.2.1 13)) (As := [.int a0]) (rest := []) (T := ((J, L, I, P, E, N), sgM g)) C hW (c_X12_isNode l g J L I P E N H.size a0 hwm) mi_X12_isNode tw_1251 (recv_ (T := ((J, L, I, P, E, N), sgM g)) C hW (mm_ rfl) rfl rfl) ⟨rfl, rfl, Nat.le_of_ble_eq_true rfl, Nat.le_of_ble_eq_true rfl⟩ rfl hl.1 rfl (Nat.le_of_ble_eq_true rfl) dX12_boost_2 ⟨Nat.le_of_ble_eq_true rfl, Nat.le_of_ble_eq_true rfl⟩) (fun r1 u1 H locs hp1 hW => ?_)
  have hc1 : ((r1.toInt = 1 ∧ (0 ≤ a0.toInt ∧ a0.toInt < (J 13 32).toInt)) ∨ (r1.toInt = 0 ∧ (¬ (0 ≤ a0.toInt ∧ a0.toInt < (J 13 32).toInt)))) := hp1
  clear hp1
  have hW : WB g A s.heap H locs (J, L, I, P, E, N) (sgM g) := hW
  refine lv_if_eq (tgt := 18) hx hb dX12_boost_5 (by decide) (fun c2 => ?_) (fun c2 => ?_)
  · have c2 : r1.toInt = 0 := teq rfl kp0 c2
    refine lv_iconst (v := (-1)) hx hb dX12_boost_18 (by decide) ?_
    refine lv_istore_n (lv' := [(3, .int (-1)), (0, .ref (g.2.2.1 13)), (1, .int a0), (2, .int a1)]) hx hb dX12_boost_19 rfl hl (by decide) rfl (fun ls hl => ?_)
    refine lv_iload_n hx hb dX12_boost_20 rfl (lv_at hl 0 rfl) ?_
    refine lv_if_eq (tgt := 30) hx hb dX12_boost_21 (by decide) (fun c3 => ?_) (fun c3 => ?_)
    · exact absurd c3 (by decide)
    · skip
      refine lv_aload_n hx hb dX12_boost_24 rfl (lv_at hl 1 rfl) ?_
      refine lv_iload_n hx hb dX12_boost_25 rfl (lv_at hl 0 rfl) ?_
      refine ci_ C hW (runV (x := (g.2.2.1 13)) (As := [.int (-1)]) (rest := []) (T := ((J, L, I, P, E, N), sgM g)) C hW (c_X12_refuse l g J L I P E N H.size (-1) (show -6 ≤ (-1 : Int32).toInt ∧ (-1 : Int32).toInt ≤ -1 from by (try simp only [kn1]); omega)) mi_X12_refuse tw_1239 (recv_ (T := ((J, L, I, P, E, N), sgM g)) C hW (mm_ rfl) rfl rfl) ⟨rfl, rfl, Nat.le_of_ble_eq_true rfl, Nat.le_of_ble_eq_true rfl⟩ rfl hl.1 rfl (Nat.le_of_ble_eq_true rfl) dX12_boost_26 ⟨Nat.le_of_ble_eq_true rfl, Nat.le_of_ble_eq_true rfl⟩) (fun r4 u4 H locs hp4 hW => ?_)
      have hc4 : ((r4 = (-1))) := hp4
      clear hp4
      have hr4 : r4.toInt = (-1) := by rw [hc4]; exact kn1
      have hW : WB g A s.heap H locs ((hv J [100] [] u4), L, I, P, E, N) (sgM g) := hW
      have hWr : WB g A s.heap H locs (hv J [100, 103] [(13, 49)] (hv J [100] [] u4), L, I, P, E, N) (sgM g) := by
        rw [← ag_hvE (J := J) (R := [100, 103]) (F := [(13, 49)]) (ag_hv rfl rfl ag_rf)]
        exact hW
      subst hQ9
      exact end_i C hr hlocks (hv J [100] [] u4) hWr ⟨by first | exact Or.inl ⟨by omega, by omega, show J 103 = J 103 from by first | rfl | assumption⟩ | exact Or.inr (Or.inl ⟨by omega, by omega, show J 103 = J 103 from by first | rfl | assumption⟩) | exact Or.inr (Or.inr (Or.inl ⟨by omega, by omega, show J 103 = J 103 from by first | rfl | assumption⟩)) | exact Or.inr (Or.inr (Or.inr (⟨by first | rfl | assumption, by omega, show J 103 = up2 J 103 a0.toNatClampNeg a1 103 from by first | rfl | assumption⟩))) | (rcases hc1 with qhc1 | qhc1 <;> first | exact Or.inl ⟨by omega, by omega, show J 103 = J 103 from by first | rfl | assumption⟩ | exact Or.inr (Or.inl ⟨by omega, by omega, show J 103 = J 103 from by first | rfl | assumption⟩) | exact Or.inr (Or.inr (Or.inl ⟨by omega, by omega, show J 103 = J 103 from by first | rfl | assumption⟩)) | exact Or.inr (Or.inr (Or.inr (⟨by first | rfl | assumption, by omega, show J 103 = up2 J 103 a0.toNatClampNeg a1 103 from by first | rfl | assumption⟩))) | (exfalso; omega)), show (J 13 49 = J 13 49 ∧ J 103 = J 103) ∨ J 13 49 = J 13 49 + 1 from by first | exact Or.inl ⟨rfl, rfl⟩ | exact Or.inr (by assumption) | exact Or.inr rfl⟩ dX12_boost_29
  · have c2 : ¬ r1.toInt = 0 := tne rfl kp0 c2
    refine lv_iload_n hx hb dX12_boost_8 rfl (lv_at hl 2 rfl) ?_
    refine lv_iconst (v := 0) hx hb dX12_boost_9 (by decide) ?_
    refine lv_bipush (v := 99) hx hb dX12_boost_10 (by decide) ?_
    refine ci_ C hW (runS (As := [.int a1, .int 0, .int 99]) (rest := []) (T := ((J, L, I, P, E, N), sgM g)) C hW (c_X12_within l g J L I P E N H.size a1 0 99 ) mi_X12_within tw_1258 ⟨rfl, rfl, Nat.le_of_ble_eq_true rfl, Nat.le_of_ble_eq_true rfl⟩ rfl hl.1 rfl (Nat.le_of_ble_eq_true rfl) dX12_boost_12 ⟨Nat.le_of_ble_eq_true rfl, Nat.le_of_ble_eq_true rfl⟩) (fun r5 u5 H locs hp5 hW => ?_)
    have hc5 : ((r5.toInt = (-4) ∧ (a1.toInt < 0)) ∨ (r5.toInt = (-6) ∧ (0 ≤ a1.toInt ∧ 99 < a1.toInt)) ∨ (r5.toInt = 0 ∧ (0 ≤ a1.toInt ∧ a1.toInt ≤ 99))) := hp5
    clear hp5
    have hW : WB g A s.heap H locs (J, L, I, P, E, N) (sgM g) := hW
    refine lv_goto (tgt := 19) hx hb dX12_boost_15 (by decide) ?_
    refine lv_istore_n (lv' := [(3, .int r5), (0, .ref (g.2.2.1 13)), (1, .int a0), (2, .int a1)]) hx hb dX12_boost_19 rfl hl (by decide) rfl (fun ls hl => ?_)
    refine lv_iload_n hx hb dX12_boost_20 rfl (lv_at hl 0 rfl) ?_
    refine lv_if_eq (tgt := 30) hx hb dX12_boost_21 (by decide) (fun c6 => ?_) (fun c6 => ?_)
    · have c6 : r5.toInt = 0 := teq rfl kp0 c6
      refine lv_aload_n hx hb dX12_boost_30 rfl (lv_at hl 1 rfl) ?_
      refine rg_13_3 C hW (mm_ rfl) tw_1026 dX12_boost_31 ?_
      refine lv_iload_n hx hb dX12_boost_34 rfl (lv_at hl 2 rfl) ?_
      have hin : vp_in a0 20 := tin rfl (by omega)
      refine ra_103 C hW (mm_ rfl) hin dX12_boost_35 ?_
      refine lv_topi (fun x7 (e7 : x7 = J 103 a0.toNatClampNeg) => ?_)
      refine lv_istore (lv' := [(4, .int x7), (3, .int r5), (0, .ref (g.2.2.1 13)), (1, .int a0), (2, .int a1)]) hx hb dX12_boost_36 hl (by decide) rfl (fun ls hl => ?_)
      refine lv_aload_n hx hb dX12_boost_38 rfl (lv_at hl 2 rfl) ?_
      refine rg_13_3 C hW (mm_ rfl) tw_1026 dX12_boost_39 ?_
      refine lv_iload_n hx hb dX12_boost_42 rfl (lv_at hl 3 rfl) ?_
      refine lv_iload_n hx hb dX12_boost_43 rfl (lv_at hl 4 rfl) ?_
      have hin : vp_in a0 20 := tin rfl (by omega)
      refine rs_103 C hW (mm_ rfl) hin dX12_boost_44 (fun H locs hW => ?_)
      refine lv_aload_n hx hb dX12_boost_45 rfl (lv_at hl 2 rfl) ?_
      refine lv_dup hx hb dX12_boost_46 rfl ?_
      refine rg_13_49 C hW (mm_ rfl) tw_1072 dX12_boost_47 ?_
      refine lv_as (J 13 49) rfl ?_
      refine lv_iconst (v := 1) hx hb dX12_boost_50 (by decide) ?_
      refine lv_iadd hx hb dX12_boost_51 ?_
      refine lv_topi (fun x8 (e8 : x8 = (J 13 49) + 1) => ?_)
      refine rp_13_49 C hW (mm_ rfl) tw_1072 dX12_boost_52 (fun H locs hW => ?_)
      refine lv_iload hx hb dX12_boost_55 (lv_at hl 0 rfl) ?_
      have hWr : WB g A s.heap H locs (hv J [100, 103] [(13, 49)] (up2 (up2 J 103 a0.toNatClampNeg a1) 13 49 x8), L, I, P, E, N) (sgM g) := by
        rw [← ag_hvE (J := J) (R := [100, 103]) (F := [(13, 49)]) (ag_up (Or.inr rfl) (ag_up (Or.inl rfl) ag_rf))]
        exact hW
      subst hQ9
      exact end_i C hr hlocks (up2 (up2 J 103 a0.toNatClampNeg a1) 13 49 x8) hWr ⟨by first | exact Or.inl ⟨by omega, by omega, show (up2 J 103 a0.toNatClampNeg a1) 103 = J 103 from by first | rfl | assumption⟩ | exact Or.inr (Or.inl ⟨by omega, by omega, show (up2 J 103 a0.toNatClampNeg a1) 103 = J 103 from by first | rfl | assumption⟩) | exact Or.inr (Or.inr (Or.inl ⟨by omega, by omega, show (up2 J 103 a0.toNatClampNeg a1) 103 = J 103 from by first | rfl | assumption⟩)) | exact Or.inr (Or.inr (Or.inr (⟨by first | rfl | assumption, by omega, show (up2 J 103 a0.toNatClampNeg a1) 103 = up2 J 103 a0.toNatClampNeg a1 103 from by first | rfl | assumption⟩))) | (rcases hc1 with qhc1 | qhc1 <;> rcases hc5 with qhc5 | qhc5 | qhc5 <;> first | exact Or.inl ⟨by omega, by omega, show (up2 J 103 a0.toNatClampNeg a1) 103 = J 103 from by first | rfl | assumption⟩ | exact Or.inr (Or.inl ⟨by omega, by omega, show (up2 J 103 a0.toNatClampNeg a1) 103 = J 103 from by first | rfl | assumption⟩) | exact Or.inr (Or.inr (Or.inl ⟨by omega, by omega, show (up2 J 103 a0.toNatClampNeg a1) 103 = J 103 from by first | rfl | assumption⟩)) | exact Or.inr (Or.inr (Or.inr (⟨by first | rfl | assumption, by omega, show (up2 J 103 a0.toNatClampNeg a1) 103 = up2 J 103 a0.toNatClampNeg a1 103 from by first | rfl | assumption⟩))) | (exfalso; omega)), show (x8 = J 13 49 ∧ (up2 J 103 a0.toNatClampNeg a1) 103 = J 103) ∨ x8 = J 13 49 + 1 from by first | exact Or.inl ⟨rfl, rfl⟩ | exact Or.inr (by assumption) | exact Or.inr rfl⟩ dX12_boost_57
    · have c6 : ¬ r5.toInt = 0 := tne rfl kp0 c6
      refine lv_aload_n hx hb dX12_boost_24 rfl (lv_at hl 1 rfl) ?_
      refine lv_iload_n hx hb dX12_boost_25 rfl (lv_at hl 0 rfl) ?_
      refine ci_ C hW (runV (x := (g.2.2.1 13)) (As := [.int r5]) (rest := []) (T := ((J, L, I, P, E, N), sgM g)) C hW (c_X12_refuse l g J L I P E N H.size r5 (show -6 ≤ r5.toInt ∧ r5.toInt ≤ -1 from by omega)) mi_X12_refuse tw_1239 (recv_ (T := ((J, L, I, P, E, N), sgM g)) C hW (mm_ rfl) rfl rfl) ⟨rfl, rfl, Nat.le_of_ble_eq_true rfl, Nat.le_of_ble_eq_true rfl⟩ rfl hl.1 rfl (Nat.le_of_ble_eq_true rfl) dX12_boost_26 ⟨Nat.le_of_ble_eq_true rfl, Nat.le_of_ble_eq_true rfl⟩) (fun r9 u9 H locs hp9 hW => ?_)
      have hc9 : ((r9 = r5)) := hp9
      clear hp9
      have hr9 : r9.toInt = (r5).toInt := by rw [hc9]
      have hW : WB g A s.heap H locs ((hv J [100] [] u9), L, I, P, E, N) (sgM g) := hW
      have hWr : WB g A s.heap H locs (hv J [100, 103] [(13, 49)] (hv J [100] [] u9), L, I, P, E, N) (sgM g) := by
        rw [← ag_hvE (J := J) (R := [100, 103]) (F := [(13, 49)]) (ag_hv rfl rfl ag_rf)]
        exact hW
      subst hQ9
      exact end_i C hr hlocks (hv J [100] [] u9) hWr ⟨by first | exact Or.inl ⟨by omega, by omega, show J 103 = J 103 from by first | rfl | assumption⟩ | exact Or.inr (Or.inl ⟨by omega, by omega, show J 103 = J 103 from by first | rfl | assumption⟩) | exact Or.inr (Or.inr (Or.inl ⟨by omega, by omega, show J 103 = J 103 from by first | rfl | assumption⟩)) | exact Or.inr (Or.inr (Or.inr (⟨by first | rfl | assumption, by omega, show J 103 = up2 J 103 a0.toNatClampNeg a1 103 from by first | rfl | assumption⟩))) | (rcases hc1 with qhc1 | qhc1 <;> rcases hc5 with qhc5 | qhc5 | qhc5 <;> first | exact Or.inl ⟨by omega, by omega, show J 103 = J 103 from by first | rfl | assumption⟩ | exact Or.inr (Or.inl ⟨by omega, by omega, show J 103 = J 103 from by first | rfl | assumption⟩) | exact Or.inr (Or.inr (Or.inl ⟨by omega, by omega, show J 103 = J 103 from by first | rfl | assumption⟩)) | exact Or.inr (Or.inr (Or.inr (⟨by first | rfl | assumption, by omega, show J 103 = up2 J 103 a0.toNatClampNeg a1 103 from by first | rfl | assumption⟩))) | (exfalso; omega)), show (J 13 49 = J 13 49 ∧ J 103 = J 103) ∨ J 13 49 = J 13 49 + 1 from by first | exact Or.inl ⟨rfl, rfl⟩ | exact Or.inr (by assumption) | exact Or.inr rfl⟩ dX12_boost_29

set_option maxHeartbeats 4000000 in
set_option maxRecDepth 100000 in
theorem c_X12_home_t (l : Launch) (g : gG) (J : Nat → Nat → Int32) (L : Nat → Nat → Int64) (I : Nat → Nat → Nat → Int32) (P : Nat → Nat → Nat → Option Nat) (E : Nat → Option Nat) (N : Nat → Nat) (sz : Nat) (a0 : Int32) (a1 : Int32) (a2 : Int32) (a3 : Int32) (hwm : WM J) : Met l yX12_home (WS yX12_home cX12_home 5 (some .int)) (RM (3) 0 0) (PC g [.ref (g.2.2.1 13), .int a0, .int a1, .int a2, .int a3] ((J, L, I, P, E, N), sgM g) sz) (va_Qi (fun (r : Int32) (u : (Nat → Nat → Int32)) => WM (hv J [100, 108, 109, 110, 111] [(13, 35), (13, 49)] u) ∧ ((r.toInt = (-1) ∧ (¬ (0 ≤ a0.toInt ∧ a0.toInt < (J 13 32).toInt)) ∧ u 13 35 = J 13 35 ∧ u 108 = J 108 ∧ u 109 = J 109 ∧ u 110 = J 110 ∧ u 111 = J 111) ∨ (r.toInt = (-4) ∧ (0 ≤ a0.toInt ∧ a0.toInt < (J 13 32).toInt ∧ (a1.toInt < 1 ∨ a2.toInt < 0 ∨ a3.toInt < 0)) ∧ u 13 35 = J 13 35 ∧ u 108 = J 108 ∧ u 109 = J 109 ∧ u 110 = J 110 ∧ u 111 = J 111) ∨ (r.toInt = (-6) ∧ (0 ≤ a0.toInt ∧ a0.toInt < (J 13 32).toInt ∧ 1 ≤ a1.toInt ∧ 0 ≤ a2.toInt ∧ 0 ≤ a3.toInt ∧ (9 < a1.toInt ∨ 16777215 < a2.toInt ∨ 16777215 < a3.toInt ∨ (J 13 35).toInt = 40)) ∧ u 13 35 = J 13 35 ∧ u 108 = J 108 ∧ u 109 = J 109 ∧ u 110 = J 110 ∧ u 111 = J 111) ∨ (r.toInt = (J 13 35).toInt ∧ (0 ≤ a0.toInt ∧ a0.toInt < (J 13 32).toInt ∧ 1 ≤ a1.toInt ∧ 0 ≤ a2.toInt ∧ 0 ≤ a3.toInt ∧ a1.toInt ≤ 9 ∧ a2.toInt ≤ 16777215 ∧ a3.toInt ≤ 16777215 ∧ (J 13 35).toInt ≤ 39) ∧ (u 13 35).toInt = (J 13 35).toInt + 1 ∧ u 108 = up2 J 108 (J 13 35).toNatClampNeg a0 108 ∧ u 109 = up2 J 109 (J 13 35).toNatClampNeg a1 109 ∧ u 110 = up2 J 110 (J 13 35).toNatClampNeg a2 110 ∧ u 111 = up2 J 111 (J 13 35).toNatClampNeg a3 111)) ∧ ((u 13 49 = J 13 49 ∧ u 13 35 = J 13 35 ∧ u 108 = J 108 ∧ u 109 = J 109 ∧ u 110 = J 110 ∧ u 111 = J 111) ∨ u 13 49 = J 13 49 + 1)) (fun u t => at_ g (FR g ((J, L, I, P, E, N), sgM g) sz) ((hv J [100, 108, 109, 110, 111] [(13, 35), (13, 49)] u, L, I, P, E, N), sgM g) t) (FR g ((J, L, I, P, E, N), sgM g) sz)) 0 0 (FR g ((J, L, I, P, E, N), sgM g) sz) := by
  refine ent (by decide +kernel) (Nat.le_of_ble_eq_true rfl) ?_
  intro p e s m below meth c ls hsz C hW hr hlocks hname hl
  generalize FR g ((J, L, I, P, E, N), sgM g) sz = A at C hW ⊢
  generalize hQ9 : (va_Qi (fun (r : Int32) (u : (Nat → Nat → Int32)) => WM (hv J [100, 108, 109, 110, 111] [(13, 35), (13, 49)] u) ∧ ((r.toInt = (-1) ∧ (¬ (0 ≤ a0.toInt ∧ a0.toInt < (J 13 32).toInt)) ∧ u 13 35 = J 13 35 ∧ u 108 = J 108 ∧ u 109 = J 109 ∧ u 110 = J 110 ∧ u 111 = J 111) ∨ (r.toInt = (-4) ∧ (0 ≤ a0.toInt ∧ a0.toInt < (J 13 32).toInt ∧ (a1.toInt < 1 ∨ a2.toInt < 0 ∨ a3.toInt < 0)) ∧ u 13 35 = J 13 35 ∧ u 108 = J 108 ∧ u 109 = J 109 ∧ u 110 = J 110 ∧ u 111 = J 111) ∨ (r.toInt = (-6) ∧ (0 ≤ a0.toInt ∧ a0.toInt < (J 13 32).toInt ∧ 1 ≤ a1.toInt ∧ 0 ≤ a2.toInt ∧ 0 ≤ a3.toInt ∧ (9 < a1.toInt ∨ 16777215 < a2.toInt ∨ 16777215 < a3.toInt ∨ (J 13 35).toInt = 40)) ∧ u 13 35 = J 13 35 ∧ u 108 = J 108 ∧ u 109 = J 109 ∧ u 110 = J 110 ∧ u 111 = J 111) ∨ (r.toInt = (J 13 35).toInt ∧ (0 ≤ a0.toInt ∧ a0.toInt < (J 13 32).toInt ∧ 1 ≤ a1.toInt ∧ 0 ≤ a2.toInt ∧ 0 ≤ a3.toInt ∧ a1.toInt ≤ 9 ∧ a2.toInt ≤ 16777215 ∧ a3.toInt ≤ 16777215 ∧ (J 13 35).toInt ≤ 39) ∧ (u 13 35).toInt = (J 13 35).toInt + 1 ∧ u 108 = up2 J 108 (J 13 35).toNatClampNeg a0 108 ∧ u 109 = up2 J 109 (J 13 35).toNatClampNeg a1 109 ∧ u 110 = up2 J 110 (J 13 35).toNatClampNeg a2 110 ∧ u 111 = up2 J 111 (J 13 35).toNatClampNeg a3 111)) ∧ ((u 13 49 = J 13 49 ∧ u 13 35 = J 13 35 ∧ u 108 = J 108 ∧ u 109 = J 109 ∧ u 110 = J 110 ∧ u 111 = J 111) ∨ u 13 49 = J 13 49 + 1)) (fun u t => at_ g A ((hv J [100, 108, 109, 110, 111] [(13, 35), (13, 49)] u, L, I, P, E, N), sgM g) t) A) = Q9
  have hx := C.1.1
  have hb := C.1.2.1
  have hts := C.1.2.2.2.2
  have hW : WB g A s.heap s.heap [] (J, L, I, P, E, N) (sgM g) := hW
  have hl : lv_has ls 5 [(0, .ref (g.2.2.1 13)), (1, .int a0), (2, .int a1), (3, .int a2), (4, .int a3)] := hl
  obtain ⟨H, hH⟩ : ∃ H : Heap, H = s.heap := ⟨_, rfl⟩
  obtain ⟨locs, hlocs⟩ : ∃ q : List Loc, q = [] := ⟨_, rfl⟩
  have hW : WB g A s.heap H locs (J, L, I, P, E, N) (sgM g) := by rw [hH, hlocs]; exact hW
  obtain ⟨⟨hnd1, hnd2, hon, hhm1, hhm2, hhN, hcu1, hcu2, hco1, hco2, hcN⟩, ⟨hrd1, hrd2⟩, ⟨hnw1, hnw2, hns1, hns2, hof⟩, ⟨htm1, htm2, hts_⟩, ⟨had1, had2, hrw1, hrw2, htp1, htp2⟩⟩ := id hwm
  refine start_ hH hlocs ?_
  refine lv_aload_n hx hb dX12_home_0 rfl (lv_at hl 0 rfl) ?_
  refine lv_iload_n hx hb dX12_home_1 rfl (lv_at hl 1 rfl) ?_
  refine ci_ C hW (runV (x := (g.2.2.1 13)) (As := [.int a0]) (rest := []) (T := ((J, L, I, P, E, N), sgM g)) C hW (c_X12_isNode l g J L I P E N H.size a0 hwm) mi_X12_isNode tw_1251 (recv_ (T := ((J, L, I, P, E, N), sgM g)) C hW (mm_ rfl) rfl rfl) ⟨rfl, rfl, Nat.le_of_ble_eq_true rfl, Nat.le_of_ble_eq_true rfl⟩ rfl hl.1 rfl (Nat.le_of_ble_eq_true rfl) dX12_home_2 ⟨Nat.le_of_ble_eq_true rfl, Nat.le_of_ble_eq_true rfl⟩) (fun r1 u1 H locs hp1 hW => ?_)
  have hc1 : ((r1.toInt = 1 ∧ (0 ≤ a0.toInt ∧ a0.toInt < (J 13 32).toInt)) ∨ (r1.toInt = 0 ∧ (¬ (0 ≤ a0.toInt ∧ a0.toInt < (J 13 32).toInt)))) := hp1
  clear hp1
  have hW : WB g A s.heap H locs (J, L, I, P, E, N) (sgM g) := hW
  refine lv_if_ne (tgt := 14) hx hb dX12_home_5 (by decide) (fun c2 => ?_) (fun c2 => ?_)
  · have c2 : ¬ r1.toInt = 0 := tne rfl kp0 c2
    refine lv_iload_n hx hb dX12_home_14 rfl (lv_at hl 2 rfl) ?_
    refine lv_iconst (v := 1) hx hb dX12_home_15 (by decide) ?_
    refine lv_icmp_lt (tgt := 28) hx hb dX12_home_16 (by decide) (fun c3 => ?_) (fun c3 => ?_)
    · have c3 : a1.toInt < 1 := tlt rfl kp1 c3
      refine lv_aload_n hx hb dX12_home_28 rfl (lv_at hl 0 rfl) ?_
      refine lv_bipush (v := (-4)) hx hb dX12_home_29 (by decide) ?_
      refine ci_ C hW (runV (x := (g.2.2.1 13)) (As := [.int (-4)]) (rest := []) (T := ((J, L, I, P, E, N), sgM g)) C hW (c_X12_refuse l g J L I P E N H.size (-4) (show -6 ≤ (-4 : Int32).toInt ∧ (-4 : Int32).toInt ≤ -1 from by (try simp only [kn4]); omega)) mi_X12_refuse tw_1239 (recv_ (T := ((J, L, I, P, E, N), sgM g)) C hW (mm_ rfl) rfl rfl) ⟨rfl, rfl, Nat.le_of_ble_eq_true rfl, Nat.le_of_ble_eq_true rfl⟩ rfl hl.1 rfl (Nat.le_of_ble_eq_true rfl) dX12_home_31 ⟨Nat.le_of_ble_eq_true rfl, Nat.le_of_ble_eq_true rfl⟩) (fun r4 u4 H locs hp4 hW => ?_)
      have hc4 : ((r4 = (-4))) := hp4
      clear hp4
      have hr4 : r4.toInt = (-4) := by rw [hc4]; exact kn4
      have hW : WB g A s.heap H locs ((hv J [100] [] u4), L, I, P, E, N) (sgM g) := hW
      have hWr : WB g A s.heap H locs (hv J [100, 108, 109, 110, 111] [(13, 35), (13, 49)] (hv J [100] [] u4), L, I, P, E, N) (sgM g) := by
        rw [← ag_hvE (J := J) (R := [100, 108, 109, 110, 111]) (F := [(13, 35), (13, 49)]) (ag_hv rfl rfl ag_rf)]
        exact hW
      have hwmr : WM (hv J [100] [] u4) := by exact hwm
      have hwmr : WM (hv J [100, 108, 109, 110, 111] [(13, 35), (13, 49)] (hv J [100] [] u4)) := by
        rw [← ag_hvE (J := J) (R := [100, 108, 109, 110, 111]) (F := [(13, 35), (13, 49)]) (ag_hv rfl rfl ag_rf)]; exact hwmr
      subst hQ9
      exact end_i C hr hlocks (hv J [100] [] u4) hWr ⟨hwmr, by first | exact Or.inl ⟨by omega, by omega, show J 13 35 = J 13 35 from by first | rfl | assumption, show J 108 = J 108 from by first | rfl | assumption, show J 109 = J 109 from by first | rfl | assumption, show J 110 = J 110 from by first | rfl | assumption, show J 111 = J 111 from by first | rfl | assumption⟩ | exact Or.inr (Or.inl ⟨by omega, by omega, show J 13 35 = J 13 35 from by first | rfl | assumption, show J 108 = J 108 from by first | rfl | assumption, show J 109 = J 109 from by first | rfl | assumption, show J 110 = J 110 from by first | rfl | assumption, show J 111 = J 111 from by first | rfl | assumption⟩) | exact Or.inr (Or.inr (Or.inl ⟨by omega, by omega, show J 13 35 = J 13 35 from by first | rfl | assumption, show J 108 = J 108 from by first | rfl | assumption, show J 109 = J 109 from by first | rfl | assumption, show J 110 = J 110 from by first | rfl | assumption, show J 111 = J 111 from by first | rfl | assumption⟩)) | exact Or.inr (Or.inr (Or.inr (⟨by omega, by omega, show (J 13 35).toInt = (J 13 35).toInt + 1 from by first | rfl | omega, show J 108 = up2 J 108 (J 13 35).toNatClampNeg a0 108 from by first | rfl | omega, show J 109 = up2 J 109 (J 13 35).toNatClampNeg a1 109 from by first | rfl | omega, show J 110 = up2 J 110 (J 13 35).toNatClampNeg a2 110 from by first | rfl | omega, show J 111 = up2 J 111 (J 13 35).toNatClampNeg a3 111 from by first | rfl | omega⟩))) | (rcases hc1 with qhc1 | qhc1 <;> first | exact Or.inl ⟨by omega, by omega, show J 13 35 = J 13 35 from by first | rfl | assumption, show J 108 = J 108 from by first | rfl | assumption, show J 109 = J 109 from by first | rfl | assumption, show J 110 = J 110 from by first | rfl | assumption, show J 111 = J 111 from by first | rfl | assumption⟩ | exact Or.inr (Or.inl ⟨by omega, by omega, show J 13 35 = J 13 35 from by first | rfl | assumption, show J 108 = J 108 from by first | rfl | assumption, show J 109 = J 109 from by first | rfl | assumption, show J 110 = J 110 from by first | rfl | assumption, show J 111 = J 111 from by first | rfl | assumption⟩) | exact Or.inr (Or.inr (Or.inl ⟨by omega, by omega, show J 13 35 = J 13 35 from by first | rfl | assumption, show J 108 = J 108 from by first | rfl | assumption, show J 109 = J 109 from by first | rfl | assumption, show J 110 = J 110 from by first | rfl | assumption, show J 111 = J 111 from by first | rfl | assumption⟩)) | exact Or.inr (Or.inr (Or.inr (⟨by omega, by omega, show (J 13 35).toInt = (J 13 35).toInt + 1 from by first | rfl | omega, show J 108 = up2 J 108 (J 13 35).toNatClampNeg a0 108 from by first | rfl | omega, show J 109 = up2 J 109 (J 13 35).toNatClampNeg a1 109 from by first | rfl | omega, show J 110 = up2 J 110 (J 13 35).toNatClampNeg a2 110 from by first | rfl | omega, show J 111 = up2 J 111 (J 13 35).toNatClampNeg a3 111 from by first | rfl | omega⟩))) | (exfalso; omega)), show (J 13 49 = J 13 49 ∧ J 13 35 = J 13 35 ∧ J 108 = J 108 ∧ J 109 = J 109 ∧ J 110 = J 110 ∧ J 111 = J 111) ∨ J 13 49 = J 13 49 + 1 from by first | exact Or.inl ⟨rfl, rfl, rfl, rfl, rfl, rfl⟩ | exact Or.inr (by assumption) | exact Or.inr rfl⟩ dX12_home_34
    · have c3 : 1 ≤ a1.toInt := tnlt rfl kp1 c3
      refine lv_iload_n hx hb dX12_home_19 rfl (lv_at hl 3 rfl) ?_
      refine lv_if_lt (tgt := 28) hx hb dX12_home_20 (by decide) (fun c5 => ?_) (fun c5 => ?_)
      · have c5 : a2.toInt < 0 := tlt rfl kp0 c5
        refine lv_aload_n hx hb dX12_home_28 rfl (lv_at hl 0 rfl) ?_
        refine lv_bipush (v := (-4)) hx hb dX12_home_29 (by decide) ?_
        refine ci_ C hW (runV (x := (g.2.2.1 13)) (As := [.int (-4)]) (rest := []) (T := ((J, L, I, P, E, N), sgM g)) C hW (c_X12_refuse l g J L I P E N H.size (-4) (show -6 ≤ (-4 : Int32).toInt ∧ (-4 : Int32).toInt ≤ -1 from by (try simp only [kn4]); omega)) mi_X12_refuse tw_1239 (recv_ (T := ((J, L, I, P, E, N), sgM g)) C hW (mm_ rfl) rfl rfl) ⟨rfl, rfl, Nat.le_of_ble_eq_true rfl, Nat.le_of_ble_eq_true rfl⟩ rfl hl.1 rfl (Nat.le_of_ble_eq_true rfl) dX12_home_31 ⟨Nat.le_of_ble_eq_true rfl, Nat.le_of_ble_eq_true rfl⟩) (fun r6 u6 H locs hp6 hW => ?_)
        have hc6 : ((r6 = (-4))) := hp6
        clear hp6
        have hr6 : r6.toInt = (-4) := by rw [hc6]; exact kn4
        have hW : WB g A s.heap H locs ((hv J [100] [] u6), L, I, P, E, N) (sgM g) := hW
        have hWr : WB g A s.heap H locs (hv J [100, 108, 109, 110, 111] [(13, 35), (13, 49)] (hv J [100] [] u6), L, I, P, E, N) (sgM g) := by
          rw [← ag_hvE (J := J) (R := [100, 108, 109, 110, 111]) (F := [(13, 35), (13, 49)]) (ag_hv rfl rfl ag_rf)]
          exact hW
        have hwmr : WM (hv J [100] [] u6) := by exact hwm
        have hwmr : WM (hv J [100, 108, 109, 110, 111] [(13, 35), (13, 49)] (hv J [100] [] u6)) := by
          rw [← ag_hvE (J := J) (R := [100, 108, 109, 110, 111]) (F := [(13, 35), (13, 49)]) (ag_hv rfl rfl ag_rf)]; exact hwmr
        subst hQ9
        exact end_i C hr hlocks (hv J [100] [] u6) hWr ⟨hwmr, by first | exact Or.inl ⟨by omega, by omega, show J 13 35 = J 13 35 from by first | rfl | assumption, show J 108 = J 108 from by first | rfl | assumption, show J 109 = J 109 from by first | rfl | assumption, show J 110 = J 110 from by first | rfl | assumption, show J 111 = J 111 from by first | rfl | assumption⟩ | exact Or.inr (Or.inl ⟨by omega, by omega, show J 13 35 = J 13 35 from by first | rfl | assumption, show J 108 = J 108 from by first | rfl | assumption, show J 109 = J 109 from by first | rfl | assumption, show J 110 = J 110 from by first | rfl | assumption, show J 111 = J 111 from by first | rfl | assumption⟩) | exact Or.inr (Or.inr (Or.inl ⟨by omega, by omega, show J 13 35 = J 13 35 from by first | rfl | assumption, show J 108 = J 108 from by first | rfl | assumption, show J 109 = J 109 from by first | rfl | assumption, show J 110 = J 110 from by first | rfl | assumption, show J 111 = J 111 from by first | rfl | assumption⟩)) | exact Or.inr (Or.inr (Or.inr (⟨by omega, by omega, show (J 13 35).toInt = (J 13 35).toInt + 1 from by first | rfl | omega, show J 108 = up2 J 108 (J 13 35).toNatClampNeg a0 108 from by first | rfl | omega, show J 109 = up2 J 109 (J 13 35).toNatClampNeg a1 109 from by first | rfl | omega, show J 110 = up2 J 110 (J 13 35).toNatClampNeg a2 110 from by first | rfl | omega, show J 111 = up2 J 111 (J 13 35).toNatClampNeg a3 111 from by first | rfl | omega⟩))) | (rcases hc1 with qhc1 | qhc1 <;> first | exact Or.inl ⟨by omega, by omega, show J 13 35 = J 13 35 from by first | rfl | assumption, show J 108 = J 108 from by first | rfl | assumption, show J 109 = J 109 from by first | rfl | assumption, show J 110 = J 110 from by first | rfl | assumption, show J 111 = J 111 from by first | rfl | assumption⟩ | exact Or.inr (Or.inl ⟨by omega, by omega, show J 13 35 = J 13 35 from by first | rfl | assumption, show J 108 = J 108 from by first | rfl | assumption, show J 109 = J 109 from by first | rfl | assumption, show J 110 = J 110 from by first | rfl | assumption, show J 111 = J 111 from by first | rfl | assumption⟩) | exact Or.inr (Or.inr (Or.inl ⟨by omega, by omega, show J 13 35 = J 13 35 from by first | rfl | assumption, show J 108 = J 108 from by first | rfl | assumption, show J 109 = J 109 from by first | rfl | assumption, show J 110 = J 110 from by first | rfl | assumption, show J 111 = J 111 from by first | rfl | assumption⟩)) | exact Or.inr (Or.inr (Or.inr (⟨by omega, by omega, show (J 13 35).toInt = (J 13 35).toInt + 1 from by first | rfl | omega, show J 108 = up2 J 108 (J 13 35).toNatClampNeg a0 108 from by first | rfl | omega, show J 109 = up2 J 109 (J 13 35).toNatClampNeg a1 109 from by first | rfl | omega, show J 110 = up2 J 110 (J 13 35).toNatClampNeg a2 110 from by first | rfl | omega, show J 111 = up2 J 111 (J 13 35).toNatClampNeg a3 111 from by first | rfl | omega⟩))) | (exfalso; omega)), show (J 13 49 = J 13 49 ∧ J 13 35 = J 13 35 ∧ J 108 = J 108 ∧ J 109 = J 109 ∧ J 110 = J 110 ∧ J 111 = J 111) ∨ J 13 49 = J 13 49 + 1 from by first | exact Or.inl ⟨rfl, rfl, rfl, rfl, rfl, rfl⟩ | exact Or.inr (by assumption) | exact Or.inr rfl⟩ dX12_home_34
      · have c5 : 0 ≤ a2.toInt := tnlt rfl kp0 c5
        refine lv_iload hx hb dX12_home_23 (lv_at hl 4 rfl) ?_
        refine lv_if_ge (tgt := 35) hx hb dX12_home_25 (by decide) (fun c7 => ?_) (fun c7 => ?_)
        · have c7 : 0 ≤ a3.toInt := tle kp0 rfl c7
          refine lv_iload_n hx hb dX12_home_35 rfl (lv_at hl 2 rfl) ?_
          refine lv_bipush (v := 9) hx hb dX12_home_36 (by decide) ?_
          refine lv_icmp_gt (tgt := 63) hx hb dX12_home_38 (by decide) (fun c8 => ?_) (fun c8 => ?_)
          · have c8 : 9 < a1.toInt := tlt kp9 rfl c8
            refine lv_aload_n hx hb dX12_home_63 rfl (lv_at hl 0 rfl) ?_
            refine lv_bipush (v := (-6)) hx hb dX12_home_64 (by decide) ?_
            refine ci_ C hW (runV (x := (g.2.2.1 13)) (As := [.int (-6)]) (rest := []) (T := ((J, L, I, P, E, N), sgM g)) C hW (c_X12_refuse l g J L I P E N H.size (-6) (show -6 ≤ (-6 : Int32).toInt ∧ (-6 : Int32).toInt ≤ -1 from by (try simp only [kn6]); omega)) mi_X12_refuse tw_1239 (recv_ (T := ((J, L, I, P, E, N), sgM g)) C hW (mm_ rfl) rfl rfl) ⟨rfl, rfl, Nat.le_of_ble_eq_true rfl, Nat.le_of_ble_eq_true rfl⟩ rfl hl.1 rfl (Nat.le_of_ble_eq_true rfl) dX12_home_66 ⟨Nat.le_of_ble_eq_true rfl, Nat.le_of_ble_eq_true rfl⟩) (fun r9 u9 H locs hp9 hW => ?_)
            have hc9 : ((r9 = (-6))) := hp9
            clear hp9
            have hr9 : r9.toInt = (-6) := by rw [hc9]; exact kn6
            have hW : WB g A s.heap H locs ((hv J [100] [] u9), L, I, P, E, N) (sgM g) := hW
            have hWr : WB g A s.heap H locs (hv J [100, 108, 109, 110, 111] [(13, 35), (13, 49)] (hv J [100] [] u9), L, I, P, E, N) (sgM g) := by
              rw [← ag_hvE (J := J) (R := [100, 108, 109, 110, 111]) (F := [(13, 35), (13, 49)]) (ag_hv rfl rfl ag_rf)]
              exact hW
            have hwmr : WM (hv J [100] [] u9) := by exact hwm
            have hwmr : WM (hv J [100, 108, 109, 110, 111] [(13, 35), (13, 49)] (hv J [100] [] u9)) := by
              rw [← ag_hvE (J := J) (R := [100, 108, 109, 110, 111]) (F := [(13, 35), (13, 49)]) (ag_hv rfl rfl ag_rf)]; exact hwmr
            subst hQ9
            exact end_i C hr hlocks (hv J [100] [] u9) hWr ⟨hwmr, by first | exact Or.inl ⟨by omega, by omega, show J 13 35 = J 13 35 from by first | rfl | assumption, show J 108 = J 108 from by first | rfl | assumption, show J 109 = J 109 from by first | rfl | assumption, show J 110 = J 110 from by first | rfl | assumption, show J 111 = J 111 from by first | rfl | assumption⟩ | exact Or.inr (Or.inl ⟨by omega, by omega, show J 13 35 = J 13 35 from by first | rfl | assumption, show J 108 = J 108 from by first | rfl | assumption, show J 109 = J 109 from by first | rfl | assumption, show J 110 = J 110 from by first | rfl | assumption, show J 111 = J 111 from by first | rfl | assumption⟩) | exact Or.inr (Or.inr (Or.inl ⟨by omega, by omega, show J 13 35 = J 13 35 from by first | rfl | assumption, show J 108 = J 108 from by first | rfl | assumption, show J 109 = J 109 from by first | rfl | assumption, show J 110 = J 110 from by first | rfl | assumption, show J 111 = J 111 from by first | rfl | assumption⟩)) | exact Or.inr (Or.inr (Or.inr (⟨by omega, by omega, show (J 13 35).toInt = (J 13 35).toInt + 1 from by first | rfl | omega, show J 108 = up2 J 108 (J 13 35).toNatClampNeg a0 108 from by first | rfl | omega, show J 109 = up2 J 109 (J 13 35).toNatClampNeg a1 109 from by first | rfl | omega, show J 110 = up2 J 110 (J 13 35).toNatClampNeg a2 110 from by first | rfl | omega, show J 111 = up2 J 111 (J 13 35).toNatClampNeg a3 111 from by first | rfl | omega⟩))) | (rcases hc1 with qhc1 | qhc1 <;> first | exact Or.inl ⟨by omega, by omega, show J 13 35 = J 13 35 from by first | rfl | assumption, show J 108 = J 108 from by first | rfl | assumption, show J 109 = J 109 from by first | rfl | assumption, show J 110 = J 110 from by first | rfl | assumption, show J 111 = J 111 from by first | rfl | assumption⟩ | exact Or.inr (Or.inl ⟨by omega, by omega, show J 13 35 = J 13 35 from by first | rfl | assumption, show J 108 = J 108 from by first | rfl | assumption, show J 109 = J 109 from by first | rfl | assumption, show J 110 = J 110 from by first | rfl | assumption, show J 111 = J 111 from by first | rfl | assumption⟩) | exact Or.inr (Or.inr (Or.inl ⟨by omega, by omega, show J 13 35 = J 13 35 from by first | rfl | assumption, show J 108 = J 108 from by first | rfl | assumption, show J 109 = J 109 from by first | rfl | assumption, show J 110 = J 110 from by first | rfl | assumption, show J 111 = J 111 from by first | rfl | assumption⟩)) | exact Or.inr (Or.inr (Or.inr (⟨by omega, by omega, show (J 13 35).toInt = (J 13 35).toInt + 1 from by first | rfl | omega, show J 108 = up2 J 108 (J 13 35).toNatClampNeg a0 108 from by first | rfl | omega, show J 109 = up2 J 109 (J 13 35).toNatClampNeg a1 109 from by first | rfl | omega, show J 110 = up2 J 110 (J 13 35).toNatClampNeg a2 110 from by first | rfl | omega, show J 111 = up2 J 111 (J 13 35).toNatClampNeg a3 111 from by first | rfl | omega⟩))) | (exfalso; omega)), show (J 13 49 = J 13 49 ∧ J 13 35 = J 13 35 ∧ J 108 = J 108 ∧ J 109 = J 109 ∧ J 110 = J 110 ∧ J 111 = J 111) ∨ J 13 49 = J 13 49 + 1 from by first | exact Or.inl ⟨rfl, rfl, rfl, rfl, rfl, rfl⟩ | exact Or.inr (by assumption) | exact Or.inr rfl⟩ dX12_home_69
          · have c8 : a1.toInt ≤ 9 := tnlt kp9 rfl c8
            refine lv_iload_n hx hb dX12_home_41 rfl (lv_at hl 3 rfl) ?_
            refine lv_ldc hx hb C.1.2.2.2.1 (hts _ tw_1289) dX12_home_42 ?_
            refine lv_icmp_gt (tgt := 63) hx hb dX12_home_44 (by decide) (fun c10 => ?_) (fun c10 => ?_)
            · have c10 : 16777215 < a2.toInt := tlt kp16777215 rfl c10
              refine lv_aload_n hx hb dX12_home_63 rfl (lv_at hl 0 rfl) ?_
              refine lv_bipush (v := (-6)) hx hb dX12_home_64 (by decide) ?_
              refine ci_ C hW (runV (x := (g.2.2.1 13)) (As := [.int (-6)]) (rest := []) (T := ((J, L, I, P, E, N), sgM g)) C hW (c_X12_refuse l g J L I P E N H.size (-6) (show -6 ≤ (-6 : Int32).toInt ∧ (-6 : Int32).toInt ≤ -1 from by (try simp only [kn6]); omega)) mi_X12_refuse tw_1239 (recv_ (T := ((J, L, I, P, E, N), sgM g)) C hW (mm_ rfl) rfl rfl) ⟨rfl, rfl, Nat.le_of_ble_eq_true rfl, Nat.le_of_ble_eq_true rfl⟩ rfl hl.1 rfl (Nat.le_of_ble_eq_true rfl) dX12_home_66 ⟨Nat.le_of_ble_eq_true rfl, Nat.le_of_ble_eq_true rfl⟩) (fun r11 u11 H locs hp11 hW => ?_)
              have hc11 : ((r11 = (-6))) := hp11
              clear hp11
              have hr11 : r11.toInt = (-6) := by rw [hc11]; exact kn6
              have hW : WB g A s.heap H locs ((hv J [100] [] u11), L, I, P, E, N) (sgM g) := hW
              have hWr : WB g A s.heap H locs (hv J [100, 108, 109, 110, 111] [(13, 35), (13, 49)] (hv J [100] [] u11), L, I, P, E, N) (sgM g) := by
                rw [← ag_hvE (J := J) (R := [100, 108, 109, 110, 111]) (F := [(13, 35), (13, 49)]) (ag_hv rfl rfl ag_rf)]
                exact hW
              have hwmr : WM (hv J [100] [] u11) := by exact hwm
              have hwmr : WM (hv J [100, 108, 109, 110, 111] [(13, 35), (13, 49)] (hv J [100] [] u11)) := by
                rw [← ag_hvE (J := J) (R := [100, 108, 109, 110, 111]) (F := [(13, 35), (13, 49)]) (ag_hv rfl rfl ag_rf)]; exact hwmr
              subst hQ9
              exact end_i C hr hlocks (hv J [100] [] u11) hWr ⟨hwmr, by first | exact Or.inl ⟨by omega, by omega, show J 13 35 = J 13 35 from by first | rfl | assumption, show J 108 = J 108 from by first | rfl | assumption, show J 109 = J 109 from by first | rfl | assumption, show J 110 = J 110 from by first | rfl | assumption, show J 111 = J 111 from by first | rfl | assumption⟩ | exact Or.inr (Or.inl ⟨by omega, by omega, show J 13 35 = J 13 35 from by first | rfl | assumption, show J 108 = J 108 from by first | rfl | assumption, show J 109 = J 109 from by first | rfl | assumption, show J 110 = J 110 from by first | rfl | assumption, show J 111 = J 111 from by first | rfl | assumption⟩) | exact Or.inr (Or.inr (Or.inl ⟨by omega, by omega, show J 13 35 = J 13 35 from by first | rfl | assumption, show J 108 = J 108 from by first | rfl | assumption, show J 109 = J 109 from by first | rfl | assumption, show J 110 = J 110 from by first | rfl | assumption, show J 111 = J 111 from by first | rfl | assumption⟩)) | exact Or.inr (Or.inr (Or.inr (⟨by omega, by omega, show (J 13 35).toInt = (J 13 35).toInt + 1 from by first | rfl | omega, show J 108 = up2 J 108 (J 13 35).toNatClampNeg a0 108 from by first | rfl | omega, show J 109 = up2 J 109 (J 13 35).toNatClampNeg a1 109 from by first | rfl | omega, show J 110 = up2 J 110 (J 13 35).toNatClampNeg a2 110 from by first | rfl | omega, show J 111 = up2 J 111 (J 13 35).toNatClampNeg a3 111 from by first | rfl | omega⟩))) | (rcases hc1 with qhc1 | qhc1 <;> first | exact Or.inl ⟨by omega, by omega, show J 13 35 = J 13 35 from by first | rfl | assumption, show J 108 = J 108 from by first | rfl | assumption, show J 109 = J 109 from by first | rfl | assumption, show J 110 = J 110 from by first | rfl | assumption, show J 111 = J 111 from by first | rfl | assumption⟩ | exact Or.inr (Or.inl ⟨by omega, by omega, show J 13 35 = J 13 35 from by first | rfl | assumption, show J 108 = J 108 from by first | rfl | assumption, show J 109 = J 109 from by first | rfl | assumption, show J 110 = J 110 from by first | rfl | assumption, show J 111 = J 111 from by first | rfl | assumption⟩) | exact Or.inr (Or.inr (Or.inl ⟨by omega, by omega, show J 13 35 = J 13 35 from by first | rfl | assumption, show J 108 = J 108 from by first | rfl | assumption, show J 109 = J 109 from by first | rfl | assumption, show J 110 = J 110 from by first | rfl | assumption, show J 111 = J 111 from by first | rfl | assumption⟩)) | exact Or.inr (Or.inr (Or.inr (⟨by omega, by omega, show (J 13 35).toInt = (J 13 35).toInt + 1 from by first | rfl | omega, show J 108 = up2 J 108 (J 13 35).toNatClampNeg a0 108 from by first | rfl | omega, show J 109 = up2 J 109 (J 13 35).toNatClampNeg a1 109 from by first | rfl | omega, show J 110 = up2 J 110 (J 13 35).toNatClampNeg a2 110 from by first | rfl | omega, show J 111 = up2 J 111 (J 13 35).toNatClampNeg a3 111 from by first | rfl | omega⟩))) | (exfalso; omega)), show (J 13 49 = J 13 49 ∧ J 13 35 = J 13 35 ∧ J 108 = J 108 ∧ J 109 = J 109 ∧ J 110 = J 110 ∧ J 111 = J 111) ∨ J 13 49 = J 13 49 + 1 from by first | exact Or.inl ⟨rfl, rfl, rfl, rfl, rfl, rfl⟩ | exact Or.inr (by assumption) | exact Or.inr rfl⟩ dX12_home_69
            · have c10 : a2.toInt ≤ 16777215 := tnlt kp16777215 rfl c10
              refine lv_iload hx hb dX12_home_47 (lv_at hl 4 rfl) ?_
              refine lv_ldc hx hb C.1.2.2.2.1 (hts _ tw_1289) dX12_home_49 ?_
              refine lv_icmp_gt (tgt := 63) hx hb dX12_home_51 (by decide) (fun c12 => ?_) (fun c12 => ?_)
              · have c12 : 16777215 < a3.toInt := tlt kp16777215 rfl c12
                refine lv_aload_n hx hb dX12_home_63 rfl (lv_at hl 0 rfl) ?_
                refine lv_bipush (v := (-6)) hx hb dX12_home_64 (by decide) ?_
                refine ci_ C hW (runV (x := (g.2.2.1 13)) (As := [.int (-6)]) (rest := []) (T := ((J, L, I, P, E, N), sgM g)) C hW (c_X12_refuse l g J L I P E N H.size (-6) (show -6 ≤ (-6 : Int32).toInt ∧ (-6 : Int32).toInt ≤ -1 from by (try simp only [kn6]); omega)) mi_X12_refuse tw_1239 (recv_ (T := ((J, L, I, P, E, N), sgM g)) C hW (mm_ rfl) rfl rfl) ⟨rfl, rfl, Nat.le_of_ble_eq_true rfl, Nat.le_of_ble_eq_true rfl⟩ rfl hl.1 rfl (Nat.le_of_ble_eq_true rfl) dX12_home_66 ⟨Nat.le_of_ble_eq_true rfl, Nat.le_of_ble_eq_true rfl⟩) (fun r13 u13 H locs hp13 hW => ?_)
                have hc13 : ((r13 = (-6))) := hp13
                clear hp13
                have hr13 : r13.toInt = (-6) := by rw [hc13]; exact kn6
                have hW : WB g A s.heap H locs ((hv J [100] [] u13), L, I, P, E, N) (sgM g) := hW
                have hWr : WB g A s.heap H locs (hv J [100, 108, 109, 110, 111] [(13, 35), (13, 49)] (hv J [100] [] u13), L, I, P, E, N) (sgM g) := by
                  rw [← ag_hvE (J := J) (R := [100, 108, 109, 110, 111]) (F := [(13, 35), (13, 49)]) (ag_hv rfl rfl ag_rf)]
                  exact hW
                have hwmr : WM (hv J [100] [] u13) := by exact hwm
                have hwmr : WM (hv J [100, 108, 109, 110, 111] [(13, 35), (13, 49)] (hv J [100] [] u13)) := by
                  rw [← ag_hvE (J := J) (R := [100, 108, 109, 110, 111]) (F := [(13, 35), (13, 49)]) (ag_hv rfl rfl ag_rf)]; exact hwmr
                subst hQ9
                exact end_i C hr hlocks (hv J [100] [] u13) hWr ⟨hwmr, by first | exact Or.inl ⟨by omega, by omega, show J 13 35 = J 13 35 from by first | rfl | assumption, show J 108 = J 108 from by first | rfl | assumption, show J 109 = J 109 from by first | rfl | assumption, show J 110 = J 110 from by first | rfl | assumption, show J 111 = J 111 from by first | rfl | assumption⟩ | exact Or.inr (Or.inl ⟨by omega, by omega, show J 13 35 = J 13 35 from by first | rfl | assumption, show J 108 = J 108 from by first | rfl | assumption, show J 109 = J 109 from by first | rfl | assumption, show J 110 = J 110 from by first | rfl | assumption, show J 111 = J 111 from by first | rfl | assumption⟩) | exact Or.inr (Or.inr (Or.inl ⟨by omega, by omega, show J 13 35 = J 13 35 from by first | rfl | assumption, show J 108 = J 108 from by first | rfl | assumption, show J 109 = J 109 from by first | rfl | assumption, show J 110 = J 110 from by first | rfl | assumption, show J 111 = J 111 from by first | rfl | assumption⟩)) | exact Or.inr (Or.inr (Or.inr (⟨by omega, by omega, show (J 13 35).toInt = (J 13 35).toInt + 1 from by first | rfl | omega, show J 108 = up2 J 108 (J 13 35).toNatClampNeg a0 108 from by first | rfl | omega, show J 109 = up2 J 109 (J 13 35).toNatClampNeg a1 109 from by first | rfl | omega, show J 110 = up2 J 110 (J 13 35).toNatClampNeg a2 110 from by first | rfl | omega, show J 111 = up2 J 111 (J 13 35).toNatClampNeg a3 111 from by first | rfl | omega⟩))) | (rcases hc1 with qhc1 | qhc1 <;> first | exact Or.inl ⟨by omega, by omega, show J 13 35 = J 13 35 from by first | rfl | assumption, show J 108 = J 108 from by first | rfl | assumption, show J 109 = J 109 from by first | rfl | assumption, show J 110 = J 110 from by first | rfl | assumption, show J 111 = J 111 from by first | rfl | assumption⟩ | exact Or.inr (Or.inl ⟨by omega, by omega, show J 13 35 = J 13 35 from by first | rfl | assumption, show J 108 = J 108 from by first | rfl | assumption, show J 109 = J 109 from by first | rfl | assumption, show J 110 = J 110 from by first | rfl | assumption, show J 111 = J 111 from by first | rfl | assumption⟩) | exact Or.inr (Or.inr (Or.inl ⟨by omega, by omega, show J 13 35 = J 13 35 from by first | rfl | assumption, show J 108 = J 108 from by first | rfl | assumption, show J 109 = J 109 from by first | rfl | assumption, show J 110 = J 110 from by first | rfl | assumption, show J 111 = J 111 from by first | rfl | assumption⟩)) | exact Or.inr (Or.inr (Or.inr (⟨by omega, by omega, show (J 13 35).toInt = (J 13 35).toInt + 1 from by first | rfl | omega, show J 108 = up2 J 108 (J 13 35).toNatClampNeg a0 108 from by first | rfl | omega, show J 109 = up2 J 109 (J 13 35).toNatClampNeg a1 109 from by first | rfl | omega, show J 110 = up2 J 110 (J 13 35).toNatClampNeg a2 110 from by first | rfl | omega, show J 111 = up2 J 111 (J 13 35).toNatClampNeg a3 111 from by first | rfl | omega⟩))) | (exfalso; omega)), show (J 13 49 = J 13 49 ∧ J 13 35 = J 13 35 ∧ J 108 = J 108 ∧ J 109 = J 109 ∧ J 110 = J 110 ∧ J 111 = J 111) ∨ J 13 49 = J 13 49 + 1 from by first | exact Or.inl ⟨rfl, rfl, rfl, rfl, rfl, rfl⟩ | exact Or.inr (by assumption) | exact Or.inr rfl⟩ dX12_home_69
              · have c12 : a3.toInt ≤ 16777215 := tnlt kp16777215 rfl c12
                refine lv_aload_n hx hb dX12_home_54 rfl (lv_at hl 0 rfl) ?_
                refine rg_13_35 C hW (mm_ rfl) tw_1058 dX12_home_55 ?_
                refine lv_bipush (v := 40) hx hb dX12_home_58 (by decide) ?_
                refine lv_icmp_ne (tgt := 70) hx hb dX12_home_60 (by decide) (fun c14 => ?_) (fun c14 => ?_)
                · have c14 : ¬ (J 13 35).toInt = 40 := tne rfl kp40 c14
                  refine lv_aload_n hx hb dX12_home_70 rfl (lv_at hl 0 rfl) ?_
                  refine rg_13_8 C hW (mm_ rfl) tw_1031 dX12_home_71 ?_
                  refine lv_aload_n hx hb dX12_home_74 rfl (lv_at hl 0 rfl) ?_
                  refine rg_13_35 C hW (mm_ rfl) tw_1058 dX12_home_75 ?_
                  refine lv_iload_n hx hb dX12_home_78 rfl (lv_at hl 1 rfl) ?_
                  have hin : vp_in (J 13 35) 40 := tin rfl (by omega)
                  refine rs_108 C hW (mm_ rfl) hin dX12_home_79 (fun H locs hW => ?_)
                  refine lv_aload_n hx hb dX12_home_80 rfl (lv_at hl 0 rfl) ?_
                  refine rg_13_9 C hW (mm_ rfl) tw_1032 dX12_home_81 ?_
                  refine lv_aload_n hx hb dX12_home_84 rfl (lv_at hl 0 rfl) ?_
                  refine rg_13_35 C hW (mm_ rfl) tw_1058 dX12_home_85 ?_
                  refine lv_as (J 13 35) rfl ?_
                  refine lv_iload_n hx hb dX12_home_88 rfl (lv_at hl 2 rfl) ?_
                  have hin : vp_in (J 13 35) 40 := tin rfl (by omega)
                  refine rs_109 C hW (mm_ rfl) hin dX12_home_89 (fun H locs hW => ?_)
                  refine lv_aload_n hx hb dX12_home_90 rfl (lv_at hl 0 rfl) ?_
                  refine rg_13_10 C hW (mm_ rfl) tw_1033 dX12_home_91 ?_
                  refine lv_aload_n hx hb dX12_home_94 rfl (lv_at hl 0 rfl) ?_
                  refine rg_13_35 C hW (mm_ rfl) tw_1058 dX12_home_95 ?_
                  refine lv_as (J 13 35) rfl ?_
                  refine lv_iload_n hx hb dX12_home_98 rfl (lv_at hl 3 rfl) ?_
                  have hin : vp_in (J 13 35) 40 := tin rfl (by omega)
                  refine rs_110 C hW (mm_ rfl) hin dX12_home_99 (fun H locs hW => ?_)
                  refine lv_aload_n hx hb dX12_home_100 rfl (lv_at hl 0 rfl) ?_
                  refine rg_13_11 C hW (mm_ rfl) tw_1034 dX12_home_101 ?_
                  refine lv_aload_n hx hb dX12_home_104 rfl (lv_at hl 0 rfl) ?_
                  refine rg_13_35 C hW (mm_ rfl) tw_1058 dX12_home_105 ?_
                  refine lv_as (J 13 35) rfl ?_
                  refine lv_iload hx hb dX12_home_108 (lv_at hl 4 rfl) ?_
                  have hin : vp_in (J 13 35) 40 := tin rfl (by omega)
                  refine rs_111 C hW (mm_ rfl) hin dX12_home_110 (fun H locs hW => ?_)
                  refine lv_aload_n hx hb dX12_home_111 rfl (lv_at hl 0 rfl) ?_
                  refine lv_dup hx hb dX12_home_112 rfl ?_
                  refine rg_13_35 C hW (mm_ rfl) tw_1058 dX12_home_113 ?_
                  refine lv_as (J 13 35) rfl ?_
                  refine lv_iconst (v := 1) hx hb dX12_home_116 (by decide) ?_
                  refine lv_iadd hx hb dX12_home_117 ?_
                  refine lv_topi (fun x15 (e15 : x15 = (J 13 35) + 1) => ?_)
                  try have t15 : x15.toInt = (J 13 35).toInt + 1 := tadd e15 rfl kp1 (by omega)
                  refine rp_13_35 C hW (mm_ rfl) tw_1058 dX12_home_118 (fun H locs hW => ?_)
                  refine lv_aload_n hx hb dX12_home_121 rfl (lv_at hl 0 rfl) ?_
                  refine lv_dup hx hb dX12_home_122 rfl ?_
                  refine rg_13_49 C hW (mm_ rfl) tw_1072 dX12_home_123 ?_
                  refine lv_as (J 13 49) rfl ?_
                  refine lv_iconst (v := 1) hx hb dX12_home_126 (by decide) ?_
                  refine lv_iadd hx hb dX12_home_127 ?_
                  refine lv_topi (fun x16 (e16 : x16 = (J 13 49) + 1) => ?_)
                  refine rp_13_49 C hW (mm_ rfl) tw_1072 dX12_home_128 (fun H locs hW => ?_)
                  refine lv_aload_n hx hb dX12_home_131 rfl (lv_at hl 0 rfl) ?_
                  refine rg_13_35 C hW (mm_ rfl) tw_1058 dX12_home_132 ?_
                  refine lv_as x15 rfl ?_
                  refine lv_iconst (v := 1) hx hb dX12_home_135 (by decide) ?_
                  refine lv_isub hx hb dX12_home_136 ?_
                  refine lv_topi (fun x17 (e17 : x17 = x15 - 1) => ?_)
                  try have t17 : x17.toInt = x15.toInt - 1 := tsub e17 rfl kp1 (by omega)
                  have hWr : WB g A s.heap H locs (hv J [100, 108, 109, 110, 111] [(13, 35), (13, 49)] (up2 (up2 (up2 (up2 (up2 (up2 J 108 ((J 13 35).toNatClampNeg) a0) 109 ((J 13 35).toNatClampNeg) a1) 110 ((J 13 35).toNatClampNeg) a2) 111 ((J 13 35).toNatClampNeg) a3) 13 35 x15) 13 49 x16), L, I, P, E, N) (sgM g) := by
                    rw [← ag_hvE (J := J) (R := [100, 108, 109, 110, 111]) (F := [(13, 35), (13, 49)]) (ag_up (Or.inr rfl) (ag_up (Or.inr rfl) (ag_up (Or.inl rfl) (ag_up (Or.inl rfl) (ag_up (Or.inl rfl) (ag_up (Or.inl rfl) ag_rf))))))]
                    exact hW
                  have hwmr : WM (up2 (up2 (up2 (up2 (up2 (up2 J 108 ((J 13 35).toNatClampNeg) a0) 109 ((J 13 35).toNatClampNeg) a1) 110 ((J 13 35).toNatClampNeg) a2) 111 ((J 13 35).toNatClampNeg) a3) 13 35 x15) 13 49 x16) := by exact wm_home hwm (tcl _) (by omega) (by omega) (by omega) (by omega)
                  have hwmr : WM (hv J [100, 108, 109, 110, 111] [(13, 35), (13, 49)] (up2 (up2 (up2 (up2 (up2 (up2 J 108 ((J 13 35).toNatClampNeg) a0) 109 ((J 13 35).toNatClampNeg) a1) 110 ((J 13 35).toNatClampNeg) a2) 111 ((J 13 35).toNatClampNeg) a3) 13 35 x15) 13 49 x16)) := by
                    rw [← ag_hvE (J := J) (R := [100, 108, 109, 110, 111]) (F := [(13, 35), (13, 49)]) (ag_up (Or.inr rfl) (ag_up (Or.inr rfl) (ag_up (Or.inl rfl) (ag_up (Or.inl rfl) (ag_up (Or.inl rfl) (ag_up (Or.inl rfl) ag_rf))))))]; exact hwmr
                  subst hQ9
                  exact end_i C hr hlocks (up2 (up2 (up2 (up2 (up2 (up2 J 108 ((J 13 35).toNatClampNeg) a0) 109 ((J 13 35).toNatClampNeg) a1) 110 ((J 13 35).toNatClampNeg) a2) 111 ((J 13 35).toNatClampNeg) a3) 13 35 x15) 13 49 x16) hWr ⟨hwmr, by first | exact Or.inl ⟨by omega, by omega, show x15 = J 13 35 from by first | rfl | assumption, show (up2 J 108 ((J 13 35).toNatClampNeg) a0) 108 = J 108 from by first | rfl | assumption, show (up2 J 109 ((J 13 35).toNatClampNeg) a1) 109 = J 109 from by first | rfl | assumption, show (up2 J 110 ((J 13 35).toNatClampNeg) a2) 110 = J 110 from by first | rfl | assumption, show (up2 J 111 ((J 13 35).toNatClampNeg) a3) 111 = J 111 from by first | rfl | assumption⟩ | exact Or.inr (Or.inl ⟨by omega, by omega, show x15 = J 13 35 from by first | rfl | assumption, show (up2 J 108 ((J 13 35).toNatClampNeg) a0) 108 = J 108 from by first | rfl | assumption, show (up2 J 109 ((J 13 35).toNatClampNeg) a1) 109 = J 109 from by first | rfl | assumption, show (up2 J 110 ((J 13 35).toNatClampNeg) a2) 110 = J 110 from by first | rfl | assumption, show (up2 J 111 ((J 13 35).toNatClampNeg) a3) 111 = J 111 from by first | rfl | assumption⟩) | exact Or.inr (Or.inr (Or.inl ⟨by omega, by omega, show x15 = J 13 35 from by first | rfl | assumption, show (up2 J 108 ((J 13 35).toNatClampNeg) a0) 108 = J 108 from by first | rfl | assumption, show (up2 J 109 ((J 13 35).toNatClampNeg) a1) 109 = J 109 from by first | rfl | assumption, show (up2 J 110 ((J 13 35).toNatClampNeg) a2) 110 = J 110 from by first | rfl | assumption, show (up2 J 111 ((J 13 35).toNatClampNeg) a3) 111 = J 111 from by first | rfl | assumption⟩)) | exact Or.inr (Or.inr (Or.inr (⟨by omega, by omega, show (x15).toInt = (J 13 35).toInt + 1 from by first | rfl | omega, show (up2 J 108 ((J 13 35).toNatClampNeg) a0) 108 = up2 J 108 (J 13 35).toNatClampNeg a0 108 from by first | rfl | omega, show (up2 J 109 ((J 13 35).toNatClampNeg) a1) 109 = up2 J 109 (J 13 35).toNatClampNeg a1 109 from by first | rfl | omega, show (up2 J 110 ((J 13 35).toNatClampNeg) a2) 110 = up2 J 110 (J 13 35).toNatClampNeg a2 110 from by first | rfl | omega, show (up2 J 111 ((J 13 35).toNatClampNeg) a3) 111 = up2 J 111 (J 13 35).toNatClampNeg a3 111 from by first | rfl | omega⟩))) | (rcases hc1 with qhc1 | qhc1 <;> first | exact Or.inl ⟨by omega, by omega, show x15 = J 13 35 from by first | rfl | assumption, show (up2 J 108 ((J 13 35).toNatClampNeg) a0) 108 = J 108 from by first | rfl | assumption, show (up2 J 109 ((J 13 35).toNatClampNeg) a1) 109 = J 109 from by first | rfl | assumption, show (up2 J 110 ((J 13 35).toNatClampNeg) a2) 110 = J 110 from by first | rfl | assumption, show (up2 J 111 ((J 13 35).toNatClampNeg) a3) 111 = J 111 from by first | rfl | assumption⟩ | exact Or.inr (Or.inl ⟨by omega, by omega, show x15 = J 13 35 from by first | rfl | assumption, show (up2 J 108 ((J 13 35).toNatClampNeg) a0) 108 = J 108 from by first | rfl | assumption, show (up2 J 109 ((J 13 35).toNatClampNeg) a1) 109 = J 109 from by first | rfl | assumption, show (up2 J 110 ((J 13 35).toNatClampNeg) a2) 110 = J 110 from by first | rfl | assumption, show (up2 J 111 ((J 13 35).toNatClampNeg) a3) 111 = J 111 from by first | rfl | assumption⟩) | exact Or.inr (Or.inr (Or.inl ⟨by omega, by omega, show x15 = J 13 35 from by first | rfl | assumption, show (up2 J 108 ((J 13 35).toNatClampNeg) a0) 108 = J 108 from by first | rfl | assumption, show (up2 J 109 ((J 13 35).toNatClampNeg) a1) 109 = J 109 from by first | rfl | assumption, show (up2 J 110 ((J 13 35).toNatClampNeg) a2) 110 = J 110 from by first | rfl | assumption, show (up2 J 111 ((J 13 35).toNatClampNeg) a3) 111 = J 111 from by first | rfl | assumption⟩)) | exact Or.inr (Or.inr (Or.inr (⟨by omega, by omega, show (x15).toInt = (J 13 35).toInt + 1 from by first | rfl | omega, show (up2 J 108 ((J 13 35).toNatClampNeg) a0) 108 = up2 J 108 (J 13 35).toNatClampNeg a0 108 from by first | rfl | omega, show (up2 J 109 ((J 13 35).toNatClampNeg) a1) 109 = up2 J 109 (J 13 35).toNatClampNeg a1 109 from by first | rfl | omega, show (up2 J 110 ((J 13 35).toNatClampNeg) a2) 110 = up2 J 110 (J 13 35).toNatClampNeg a2 110 from by first | rfl | omega, show (up2 J 111 ((J 13 35).toNatClampNeg) a3) 111 = up2 J 111 (J 13 35).toNatClampNeg a3 111 from by first | rfl | omega⟩))) | (exfalso; omega)), show (x16 = J 13 49 ∧ x15 = J 13 35 ∧ (up2 J 108 ((J 13 35).toNatClampNeg) a0) 108 = J 108 ∧ (up2 J 109 ((J 13 35).toNatClampNeg) a1) 109 = J 109 ∧ (up2 J 110 ((J 13 35).toNatClampNeg) a2) 110 = J 110 ∧ (up2 J 111 ((J 13 35).toNatClampNeg) a3) 111 = J 111) ∨ x16 = J 13 49 + 1 from by first | exact Or.inl ⟨rfl, rfl, rfl, rfl, rfl, rfl⟩ | exact Or.inr (by assumption) | exact Or.inr rfl⟩ dX12_home_137
                · have c14 : (J 13 35).toInt = 40 := teq rfl kp40 c14
                  refine lv_aload_n hx hb dX12_home_63 rfl (lv_at hl 0 rfl) ?_
                  refine lv_bipush (v := (-6)) hx hb dX12_home_64 (by decide) ?_
                  refine ci_ C hW (runV (x := (g.2.2.1 13)) (As := [.int (-6)]) (rest := []) (T := ((J, L, I, P, E, N), sgM g)) C hW (c_X12_refuse l g J L I P E N H.size (-6) (show -6 ≤ (-6 : Int32).toInt ∧ (-6 : Int32).toInt ≤ -1 from by (try simp only [kn6]); omega)) mi_X12_refuse tw_1239 (recv_ (T := ((J, L, I, P, E, N), sgM g)) C hW (mm_ rfl) rfl rfl) ⟨rfl, rfl, Nat.le_of_ble_eq_true rfl, Nat.le_of_ble_eq_true rfl⟩ rfl hl.1 rfl (Nat.le_of_ble_eq_true rfl) dX12_home_66 ⟨Nat.le_of_ble_eq_true rfl, Nat.le_of_ble_eq_true rfl⟩) (fun r18 u18 H locs hp18 hW => ?_)
                  have hc18 : ((r18 = (-6))) := hp18
                  clear hp18
                  have hr18 : r18.toInt = (-6) := by rw [hc18]; exact kn6
                  have hW : WB g A s.heap H locs ((hv J [100] [] u18), L, I, P, E, N) (sgM g) := hW
                  have hWr : WB g A s.heap H locs (hv J [100, 108, 109, 110, 111] [(13, 35), (13, 49)] (hv J [100] [] u18), L, I, P, E, N) (sgM g) := by
                    rw [← ag_hvE (J := J) (R := [100, 108, 109, 110, 111]) (F := [(13, 35), (13, 49)]) (ag_hv rfl rfl ag_rf)]
                    exact hW
                  have hwmr : WM (hv J [100] [] u18) := by exact hwm
                  have hwmr : WM (hv J [100, 108, 109, 110, 111] [(13, 35), (13, 49)] (hv J [100] [] u18)) := by
                    rw [← ag_hvE (J := J) (R := [100, 108, 109, 110, 111]) (F := [(13, 35), (13, 49)]) (ag_hv rfl rfl ag_rf)]; exact hwmr
                  subst hQ9
                  exact end_i C hr hlocks (hv J [100] [] u18) hWr ⟨hwmr, by first | exact Or.inl ⟨by omega, by omega, show J 13 35 = J 13 35 from by first | rfl | assumption, show J 108 = J 108 from by first | rfl | assumption, show J 109 = J 109 from by first | rfl | assumption, show J 110 = J 110 from by first | rfl | assumption, show J 111 = J 111 from by first | rfl | assumption⟩ | exact Or.inr (Or.inl ⟨by omega, by omega, show J 13 35 = J 13 35 from by first | rfl | assumption, show J 108 = J 108 from by first | rfl | assumption, show J 109 = J 109 from by first | rfl | assumption, show J 110 = J 110 from by first | rfl | assumption, show J 111 = J 111 from by first | rfl | assumption⟩) | exact Or.inr (Or.inr (Or.inl ⟨by omega, by omega, show J 13 35 = J 13 35 from by first | rfl | assumption, show J 108 = J 108 from by first | rfl | assumption, show J 109 = J 109 from by first | rfl | assumption, show J 110 = J 110 from by first | rfl | assumption, show J 111 = J 111 from by first | rfl | assumption⟩)) | exact Or.inr (Or.inr (Or.inr (⟨by omega, by omega, show (J 13 35).toInt = (J 13 35).toInt + 1 from by first | rfl | omega, show J 108 = up2 J 108 (J 13 35).toNatClampNeg a0 108 from by first | rfl | omega, show J 109 = up2 J 109 (J 13 35).toNatClampNeg a1 109 from by first | rfl | omega, show J 110 = up2 J 110 (J 13 35).toNatClampNeg a2 110 from by first | rfl | omega, show J 111 = up2 J 111 (J 13 35).toNatClampNeg a3 111 from by first | rfl | omega⟩))) | (rcases hc1 with qhc1 | qhc1 <;> first | exact Or.inl ⟨by omega, by omega, show J 13 35 = J 13 35 from by first | rfl | assumption, show J 108 = J 108 from by first | rfl | assumption, show J 109 = J 109 from by first | rfl | assumption, show J 110 = J 110 from by first | rfl | assumption, show J 111 = J 111 from by first | rfl | assumption⟩ | exact Or.inr (Or.inl ⟨by omega, by omega, show J 13 35 = J 13 35 from by first | rfl | assumption, show J 108 = J 108 from by first | rfl | assumption, show J 109 = J 109 from by first | rfl | assumption, show J 110 = J 110 from by first | rfl | assumption, show J 111 = J 111 from by first | rfl | assumption⟩) | exact Or.inr (Or.inr (Or.inl ⟨by omega, by omega, show J 13 35 = J 13 35 from by first | rfl | assumption, show J 108 = J 108 from by first | rfl | assumption, show J 109 = J 109 from by first | rfl | assumption, show J 110 = J 110 from by first | rfl | assumption, show J 111 = J 111 from by first | rfl | assumption⟩)) | exact Or.inr (Or.inr (Or.inr (⟨by omega, by omega, show (J 13 35).toInt = (J 13 35).toInt + 1 from by first | rfl | omega, show J 108 = up2 J 108 (J 13 35).toNatClampNeg a0 108 from by first | rfl | omega, show J 109 = up2 J 109 (J 13 35).toNatClampNeg a1 109 from by first | rfl | omega, show J 110 = up2 J 110 (J 13 35).toNatClampNeg a2 110 from by first | rfl | omega, show J 111 = up2 J 111 (J 13 35).toNatClampNeg a3 111 from by first | rfl | omega⟩))) | (exfalso; omega)), show (J 13 49 = J 13 49 ∧ J 13 35 = J 13 35 ∧ J 108 = J 108 ∧ J 109 = J 109 ∧ J 110 = J 110 ∧ J 111 = J 111) ∨ J 13 49 = J 13 49 + 1 from by first | exact Or.inl ⟨rfl, rfl, rfl, rfl, rfl, rfl⟩ | exact Or.inr (by assumption) | exact Or.inr rfl⟩ dX12_home_69
        · have c7 : a3.toInt < 0 := tnle kp0 rfl c7
          refine lv_aload_n hx hb dX12_home_28 rfl (lv_at hl 0 rfl) ?_
          refine lv_bipush (v := (-4)) hx hb dX12_home_29 (by decide) ?_
          refine ci_ C hW (runV (x := (g.2.2.1 13)) (As := [.int (-4)]) (rest := []) (T := ((J, L, I, P, E, N), sgM g)) C hW (c_X12_refuse l g J L I P E N H.size (-4) (show -6 ≤ (-4 : Int32).toInt ∧ (-4 : Int32).toInt ≤ -1 from by (try simp only [kn4]); omega)) mi_X12_refuse tw_1239 (recv_ (T := ((J, L, I, P, E, N), sgM g)) C hW (mm_ rfl) rfl rfl) ⟨rfl, rfl, Nat.le_of_ble_eq_true rfl, Nat.le_of_ble_eq_true rfl⟩ rfl hl.1 rfl (Nat.le_of_ble_eq_true rfl) dX12_home_31 ⟨Nat.le_of_ble_eq_true rfl, Nat.le_of_ble_eq_true rfl⟩) (fun r19 u19 H locs hp19 hW => ?_)
          have hc19 : ((r19 = (-4))) := hp19
          clear hp19
          have hr19 : r19.toInt = (-4) := by rw [hc19]; exact kn4
          have hW : WB g A s.heap H locs ((hv J [100] [] u19), L, I, P, E, N) (sgM g) := hW
          have hWr : WB g A s.heap H locs (hv J [100, 108, 109, 110, 111] [(13, 35), (13, 49)] (hv J [100] [] u19), L, I, P, E, N) (sgM g) := by
            rw [← ag_hvE (J := J) (R := [100, 108, 109, 110, 111]) (F := [(13, 35), (13, 49)]) (ag_hv rfl rfl ag_rf)]
            exact hW
          have hwmr : WM (hv J [100] [] u19) := by exact hwm
          have hwmr : WM (hv J [100, 108, 109, 110, 111] [(13, 35), (13, 49)] (hv J [100] [] u19)) := by
            rw [← ag_hvE (J := J) (R := [100, 108, 109, 110, 111]) (F := [(13, 35), (13, 49)]) (ag_hv rfl rfl ag_rf)]; exact hwmr
          subst hQ9
          exact end_i C hr hlocks (hv J [100] [] u19) hWr ⟨hwmr, by first | exact Or.inl ⟨by omega, by omega, show J 13 35 = J 13 35 from by first | rfl | assumption, show J 108 = J 108 from by first | rfl | assumption, show J 109 = J 109 from by first | rfl | assumption, show J 110 = J 110 from by first | rfl | assumption, show J 111 = J 111 from by first | rfl | assumption⟩ | exact Or.inr (Or.inl ⟨by omega, by omega, show J 13 35 = J 13 35 from by first | rfl | assumption, show J 108 = J 108 from by first | rfl | assumption, show J 109 = J 109 from by first | rfl | assumption, show J 110 = J 110 from by first | rfl | assumption, show J 111 = J 111 from by first | rfl | assumption⟩) | exact Or.inr (Or.inr (Or.inl ⟨by omega, by omega, show J 13 35 = J 13 35 from by first | rfl | assumption, show J 108 = J 108 from by first | rfl | assumption, show J 109 = J 109 from by first | rfl | assumption, show J 110 = J 110 from by first | rfl | assumption, show J 111 = J 111 from by first | rfl | assumption⟩)) | exact Or.inr (Or.inr (Or.inr (⟨by omega, by omega, show (J 13 35).toInt = (J 13 35).toInt + 1 from by first | rfl | omega, show J 108 = up2 J 108 (J 13 35).toNatClampNeg a0 108 from by first | rfl | omega, show J 109 = up2 J 109 (J 13 35).toNatClampNeg a1 109 from by first | rfl | omega, show J 110 = up2 J 110 (J 13 35).toNatClampNeg a2 110 from by first | rfl | omega, show J 111 = up2 J 111 (J 13 35).toNatClampNeg a3 111 from by first | rfl | omega⟩))) | (rcases hc1 with qhc1 | qhc1 <;> first | exact Or.inl ⟨by omega, by omega, show J 13 35 = J 13 35 from by first | rfl | assumption, show J 108 = J 108 from by first | rfl | assumption, show J 109 = J 109 from by first | rfl | assumption, show J 110 = J 110 from by first | rfl | assumption, show J 111 = J 111 from by first | rfl | assumption⟩ | exact Or.inr (Or.inl ⟨by omega, by omega, show J 13 35 = J 13 35 from by first | rfl | assumption, show J 108 = J 108 from by first | rfl | assumption, show J 109 = J 109 from by first | rfl | assumption, show J 110 = J 110 from by first | rfl | assumption, show J 111 = J 111 from by first | rfl | assumption⟩) | exact Or.inr (Or.inr (Or.inl ⟨by omega, by omega, show J 13 35 = J 13 35 from by first | rfl | assumption, show J 108 = J 108 from by first | rfl | assumption, show J 109 = J 109 from by first | rfl | assumption, show J 110 = J 110 from by first | rfl | assumption, show J 111 = J 111 from by first | rfl | assumption⟩)) | exact Or.inr (Or.inr (Or.inr (⟨by omega, by omega, show (J 13 35).toInt = (J 13 35).toInt + 1 from by first | rfl | omega, show J 108 = up2 J 108 (J 13 35).toNatClampNeg a0 108 from by first | rfl | omega, show J 109 = up2 J 109 (J 13 35).toNatClampNeg a1 109 from by first | rfl | omega, show J 110 = up2 J 110 (J 13 35).toNatClampNeg a2 110 from by first | rfl | omega, show J 111 = up2 J 111 (J 13 35).toNatClampNeg a3 111 from by first | rfl | omega⟩))) | (exfalso; omega)), show (J 13 49 = J 13 49 ∧ J 13 35 = J 13 35 ∧ J 108 = J 108 ∧ J 109 = J 109 ∧ J 110 = J 110 ∧ J 111 = J 111) ∨ J 13 49 = J 13 49 + 1 from by first | exact Or.inl ⟨rfl, rfl, rfl, rfl, rfl, rfl⟩ | exact Or.inr (by assumption) | exact Or.inr rfl⟩ dX12_home_34
  · have c2 : r1.toInt = 0 := teq rfl kp0 c2
    refine lv_aload_n hx hb dX12_home_8 rfl (lv_at hl 0 rfl) ?_
    refine lv_iconst (v := (-1)) hx hb dX12_home_9 (by decide) ?_
    refine ci_ C hW (runV (x := (g.2.2.1 13)) (As := [.int (-1)]) (rest := []) (T := ((J, L, I, P, E, N), sgM g)) C hW (c_X12_refuse l g J L I P E N H.size (-1) (show -6 ≤ (-1 : Int32).toInt ∧ (-1 : Int32).toInt ≤ -1 from by (try simp only [kn1]); omega)) mi_X12_refuse tw_1239 (recv_ (T := ((J, L, I, P, E, N), sgM g)) C hW (mm_ rfl) rfl rfl) ⟨rfl, rfl, Nat.le_of_ble_eq_true rfl, Nat.le_of_ble_eq_true rfl⟩ rfl hl.1 rfl (Nat.le_of_ble_eq_true rfl) dX12_home_10 ⟨Nat.le_of_ble_eq_true rfl, Nat.le_of_ble_eq_true rfl⟩) (fun r20 u20 H locs hp20 hW => ?_)
    have hc20 : ((r20 = (-1))) := hp20
    clear hp20
    have hr20 : r20.toInt = (-1) := by rw [hc20]; exact kn1
    have hW : WB g A s.heap H locs ((hv J [100] [] u20), L, I, P, E, N) (sgM g) := hW
    have hWr : WB g A s.heap H locs (hv J [100, 108, 109, 110, 111] [(13, 35), (13, 49)] (hv J [100] [] u20), L, I, P, E, N) (sgM g) := by
      rw [← ag_hvE (J := J) (R := [100, 108, 109, 110, 111]) (F := [(13, 35), (13, 49)]) (ag_hv rfl rfl ag_rf)]
      exact hW
    have hwmr : WM (hv J [100] [] u20) := by exact hwm
    have hwmr : WM (hv J [100, 108, 109, 110, 111] [(13, 35), (13, 49)] (hv J [100] [] u20)) := by
      rw [← ag_hvE (J := J) (R := [100, 108, 109, 110, 111]) (F := [(13, 35), (13, 49)]) (ag_hv rfl rfl ag_rf)]; exact hwmr
    subst hQ9
    exact end_i C hr hlocks (hv J [100] [] u20) hWr ⟨hwmr, by first | exact Or.inl ⟨by omega, by omega, show J 13 35 = J 13 35 from by first | rfl | assumption, show J 108 = J 108 from by first | rfl | assumption, show J 109 = J 109 from by first | rfl | assumption, show J 110 = J 110 from by first | rfl | assumption, show J 111 = J 111 from by first | rfl | assumption⟩ | exact Or.inr (Or.inl ⟨by omega, by omega, show J 13 35 = J 13 35 from by first | rfl | assumption, show J 108 = J 108 from by first | rfl | assumption, show J 109 = J 109 from by first | rfl | assumption, show J 110 = J 110 from by first | rfl | assumption, show J 111 = J 111 from by first | rfl | assumption⟩) | exact Or.inr (Or.inr (Or.inl ⟨by omega, by omega, show J 13 35 = J 13 35 from by first | rfl | assumption, show J 108 = J 108 from by first | rfl | assumption, show J 109 = J 109 from by first | rfl | assumption, show J 110 = J 110 from by first | rfl | assumption, show J 111 = J 111 from by first | rfl | assumption⟩)) | exact Or.inr (Or.inr (Or.inr (⟨by omega, by omega, show (J 13 35).toInt = (J 13 35).toInt + 1 from by first | rfl | omega, show J 108 = up2 J 108 (J 13 35).toNatClampNeg a0 108 from by first | rfl | omega, show J 109 = up2 J 109 (J 13 35).toNatClampNeg a1 109 from by first | rfl | omega, show J 110 = up2 J 110 (J 13 35).toNatClampNeg a2 110 from by first | rfl | omega, show J 111 = up2 J 111 (J 13 35).toNatClampNeg a3 111 from by first | rfl | omega⟩))) | (rcases hc1 with qhc1 | qhc1 <;> first | exact Or.inl ⟨by omega, by omega, show J 13 35 = J 13 35 from by first | rfl | assumption, show J 108 = J 108 from by first | rfl | assumption, show J 109 = J 109 from by first | rfl | assumption, show J 110 = J 110 from by first | rfl | assumption, show J 111 = J 111 from by first | rfl | assumption⟩ | exact Or.inr (Or.inl ⟨by omega, by omega, show J 13 35 = J 13 35 from by first | rfl | assumption, show J 108 = J 108 from by first | rfl | assumption, show J 109 = J 109 from by first | rfl | assumption, show J 110 = J 110 from by first | rfl | assumption, show J 111 = J 111 from by first | rfl | assumption⟩) | exact Or.inr (Or.inr (Or.inl ⟨by omega, by omega, show J 13 35 = J 13 35 from by first | rfl | assumption, show J 108 = J 108 from by first | rfl | assumption, show J 109 = J 109 from by first | rfl | assumption, show J 110 = J 110 from by first | rfl | assumption, show J 111 = J 111 from by first | rfl | assumption⟩)) | exact Or.inr (Or.inr (Or.inr (⟨by omega, by omega, show (J 13 35).toInt = (J 13 35).toInt + 1 from by first | rfl | omega, show J 108 = up2 J 108 (J 13 35).toNatClampNeg a0 108 from by first | rfl | omega, show J 109 = up2 J 109 (J 13 35).toNatClampNeg a1 109 from by first | rfl | omega, show J 110 = up2 J 110 (J 13 35).toNatClampNeg a2 110 from by first | rfl | omega, show J 111 = up2 J 111 (J 13 35).toNatClampNeg a3 111 from by first | rfl | omega⟩))) | (exfalso; omega)), show (J 13 49 = J 13 49 ∧ J 13 35 = J 13 35 ∧ J 108 = J 108 ∧ J 109 = J 109 ∧ J 110 = J 110 ∧ J 111 = J 111) ∨ J 13 49 = J 13 49 + 1 from by first | exact Or.inl ⟨rfl, rfl, rfl, rfl, rfl, rfl⟩ | exact Or.inr (by assumption) | exact Or.inr rfl⟩ dX12_home_13

set_option maxHeartbeats 4000000 in
set_option maxRecDepth 100000 in
theorem c_X12_least_t (l : Launch) (g : gG) (J : Nat → Nat → Int32) (L : Nat → Nat → Int64) (I : Nat → Nat → Nat → Int32) (P : Nat → Nat → Nat → Option Nat) (E : Nat → Option Nat) (N : Nat → Nat) (sz : Nat) (a0 : Int32) (hwm : WM J) : Met l yX12_least (WS yX12_least cX12_least 4 (some .int)) (RM (3) 0 0) (PC g [.ref (g.2.2.1 13), .int a0] ((J, L, I, P, E, N), sgM g) sz) (va_Qi (fun (r : Int32) (u : (Nat → Nat → Int32)) => ((r.toInt = (-4) ∧ (a0.toInt < 1) ∧ u 13 36 = J 13 36) ∨ (r.toInt = (-6) ∧ (99 < a0.toInt) ∧ u 13 36 = J 13 36) ∨ (r = J 13 36 ∧ (1 ≤ a0.toInt ∧ a0.toInt ≤ 99) ∧ u 13 36 = a0)) ∧ ((u 13 49 = J 13 49 ∧ u 13 36 = J 13 36) ∨ u 13 49 = J 13 49 + 1)) (fun u t => at_ g (FR g ((J, L, I, P, E, N), sgM g) sz) ((hv J [100] [(13, 36), (13, 49)] u, L, I, P, E, N), sgM g) t) (FR g ((J, L, I, P, E, N), sgM g) sz)) 0 0 (FR g ((J, L, I, P, E, N), sgM g) sz) := by
  refine ent (by decide +kernel) (Nat.le_of_ble_eq_true rfl) ?_
  intro p e s m below meth c ls hsz C hW hr hlocks hname hl
  generalize FR g ((J, L, I, P, E, N), sgM g) sz = A at C hW ⊢
  generalize hQ9 : (va_Qi (fun (r : Int32) (u : (Nat → Nat → Int32)) => ((r.toInt = (-4) ∧ (a0.toInt < 1) ∧ u 13 36 = J 13 36) ∨ (r.toInt = (-6) ∧ (99 < a0.toInt) ∧ u 13 36 = J 13 36) ∨ (r = J 13 36 ∧ (1 ≤ a0.toInt ∧ a0.toInt ≤ 99) ∧ u 13 36 = a0)) ∧ ((u 13 49 = J 13 49 ∧ u 13 36 = J 13 36) ∨ u 13 49 = J 13 49 + 1)) (fun u t => at_ g A ((hv J [100] [(13, 36), (13, 49)] u, L, I, P, E, N), sgM g) t) A) = Q9
  have hx := C.1.1
  have hb := C.1.2.1
  have hts := C.1.2.2.2.2
  have hW : WB g A s.heap s.heap [] (J, L, I, P, E, N) (sgM g) := hW
  have hl : lv_has ls 4 [(0, .ref (g.2.2.1 13)), (1, .int a0)] := hl
  obtain ⟨H, hH⟩ : ∃ H : Heap, H = s.heap := ⟨_, rfl⟩
  obtain ⟨locs, hlocs⟩ : ∃ q : List Loc, q = [] := ⟨_, rfl⟩
  have hW : WB g A s.heap H locs (J, L, I, P, E, N) (sgM g) := by rw [hH, hlocs]; exact hW
  obtain ⟨⟨hnd1, hnd2, hon, hhm1, hhm2, hhN, hcu1, hcu2, hco1, hco2, hcN⟩, ⟨hrd1, hrd2⟩, ⟨hnw1, hnw2, hns1, hns2, hof⟩, ⟨htm1, htm2, hts_⟩, ⟨had1, had2, hrw1, hrw2, htp1, htp2⟩⟩ := id hwm
  refine start_ hH hlocs ?_
  refine lv_iload_n hx hb dX12_least_0 rfl (lv_at hl 1 rfl) ?_
  refine lv_iconst (v := 1) hx hb dX12_least_1 (by decide) ?_
  refine lv_bipush (v := 99) hx hb dX12_least_2 (by decide) ?_
  refine ci_ C hW (runS (As := [.int a0, .int 1, .int 99]) (rest := []) (T := ((J, L, I, P, E, N), sgM g)) C hW (c_X12_within l g J L I P E N H.size a0 1 99 ) mi_X12_within tw_1258 ⟨rfl, rfl, Nat.le_of_ble_eq_true rfl, Nat.le_of_ble_eq_true rfl⟩ rfl hl.1 rfl (Nat.le_of_ble_eq_true rfl) dX12_least_4 ⟨Nat.le_of_ble_eq_true rfl, Nat.le_of_ble_eq_true rfl⟩) (fun r1 u1 H locs hp1 hW => ?_)
  have hc1 : ((r1.toInt = (-4) ∧ (a0.toInt < 1)) ∨ (r1.toInt = (-6) ∧ (1 ≤ a0.toInt ∧ 99 < a0.toInt)) ∨ (r1.toInt = 0 ∧ (1 ≤ a0.toInt ∧ a0.toInt ≤ 99))) := hp1
  clear hp1
  have hW : WB g A s.heap H locs (J, L, I, P, E, N) (sgM g) := hW
  refine lv_istore_n (lv' := [(2, .int r1), (0, .ref (g.2.2.1 13)), (1, .int a0)]) hx hb dX12_least_7 rfl hl (by decide) rfl (fun ls hl => ?_)
  refine lv_iload_n hx hb dX12_least_8 rfl (lv_at hl 0 rfl) ?_
  refine lv_if_eq (tgt := 18) hx hb dX12_least_9 (by decide) (fun c2 => ?_) (fun c2 => ?_)
  · have c2 : r1.toInt = 0 := teq rfl kp0 c2
    refine lv_aload_n hx hb dX12_least_18 rfl (lv_at hl 1 rfl) ?_
    refine rg_13_36 C hW (mm_ rfl) tw_1059 dX12_least_19 ?_
    refine lv_istore_n (lv' := [(3, .int (J 13 36)), (2, .int r1), (0, .ref (g.2.2.1 13)), (1, .int a0)]) hx hb dX12_least_22 rfl hl (by decide) rfl (fun ls hl => ?_)
    refine lv_aload_n hx hb dX12_least_23 rfl (lv_at hl 2 rfl) ?_
    refine lv_iload_n hx hb dX12_least_24 rfl (lv_at hl 3 rfl) ?_
    refine rp_13_36 C hW (mm_ rfl) tw_1059 dX12_least_25 (fun H locs hW => ?_)
    refine lv_aload_n hx hb dX12_least_28 rfl (lv_at hl 2 rfl) ?_
    refine lv_dup hx hb dX12_least_29 rfl ?_
    refine rg_13_49 C hW (mm_ rfl) tw_1072 dX12_least_30 ?_
    refine lv_as (J 13 49) rfl ?_
    refine lv_iconst (v := 1) hx hb dX12_least_33 (by decide) ?_
    refine lv_iadd hx hb dX12_least_34 ?_
    refine lv_topi (fun x3 (e3 : x3 = (J 13 49) + 1) => ?_)
    refine rp_13_49 C hW (mm_ rfl) tw_1072 dX12_least_35 (fun H locs hW => ?_)
    refine lv_iload_n hx hb dX12_least_38 rfl (lv_at hl 0 rfl) ?_
    have hWr : WB g A s.heap H locs (hv J [100] [(13, 36), (13, 49)] (up2 (up2 J 13 36 a0) 13 49 x3), L, I, P, E, N) (sgM g) := by
      rw [← ag_hvE (J := J) (R := [100]) (F := [(13, 36), (13, 49)]) (ag_up (Or.inr rfl) (ag_up (Or.inr rfl) ag_rf))]
      exact hW
    subst hQ9
    exact end_i C hr hlocks (up2 (up2 J 13 36 a0) 13 49 x3) hWr ⟨by first | exact Or.inl ⟨by omega, by omega, show a0 = J 13 36 from by first | rfl | assumption⟩ | exact Or.inr (Or.inl ⟨by omega, by omega, show a0 = J 13 36 from by first | rfl | assumption⟩) | exact Or.inr (Or.inr (⟨by first | rfl | assumption, by omega, show a0 = a0 from by first | rfl | assumption⟩)) | (rcases hc1 with qhc1 | qhc1 | qhc1 <;> first | exact Or.inl ⟨by omega, by omega, show a0 = J 13 36 from by first | rfl | assumption⟩ | exact Or.inr (Or.inl ⟨by omega, by omega, show a0 = J 13 36 from by first | rfl | assumption⟩) | exact Or.inr (Or.inr (⟨by first | rfl | assumption, by omega, show a0 = a0 from by first | rfl | assumption⟩)) | (exfalso; omega)), show (x3 = J 13 49 ∧ a0 = J 13 36) ∨ x3 = J 13 49 + 1 from by first | exact Or.inl ⟨rfl, rfl⟩ | exact Or.inr (by assumption) | exact Or.inr rfl⟩ dX12_least_39
  · have c2 : ¬ r1.toInt = 0 := tne rfl kp0 c2
    refine lv_aload_n hx hb dX12_least_12 rfl (lv_at hl 1 rfl) ?_
    refine lv_iload_n hx hb dX12_least_13 rfl (lv_at hl 0 rfl) ?_
    refine ci_ C hW (runV (x := (g.2.2.1 13)) (As := [.int r1]) (rest := []) (T := ((J, L, I, P, E, N), sgM g)) C hW (c_X12_refuse l g J L I P E N H.size r1 (show -6 ≤ r1.toInt ∧ r1.toInt ≤ -1 from by omega)) mi_X12_refuse tw_1239 (recv_ (T := ((J, L, I, P, E, N), sgM g)) C hW (mm_ rfl) rfl rfl) ⟨rfl, rfl, Nat.le_of_ble_eq_true rfl, Nat.le_of_ble_eq_true rfl⟩ rfl hl.1 rfl (Nat.le_of_ble_eq_true rfl) dX12_least_14 ⟨Nat.le_of_ble_eq_true rfl, Nat.le_of_ble_eq_true rfl⟩) (fun r4 u4 H locs hp4 hW => ?_)
    have hc4 : ((r4 = r1)) := hp4
    clear hp4
    have hr4 : r4.toInt = (r1).toInt := by rw [hc4]
    have hW : WB g A s.heap H locs ((hv J [100] [] u4), L, I, P, E, N) (sgM g) := hW
    have hWr : WB g A s.heap H locs (hv J [100] [(13, 36), (13, 49)] (hv J [100] [] u4), L, I, P, E, N) (sgM g) := by
      rw [← ag_hvE (J := J) (R := [100]) (F := [(13, 36), (13, 49)]) (ag_hv rfl rfl ag_rf)]
      exact hW
    subst hQ9
    exact end_i C hr hlocks (hv J [100] [] u4) hWr ⟨by first | exact Or.inl ⟨by omega, by omega, show J 13 36 = J 13 36 from by first | rfl | assumption⟩ | exact Or.inr (Or.inl ⟨by omega, by omega, show J 13 36 = J 13 36 from by first | rfl | assumption⟩) | exact Or.inr (Or.inr (⟨by first | rfl | assumption, by omega, show J 13 36 = a0 from by first | rfl | assumption⟩)) | (rcases hc1 with qhc1 | qhc1 | qhc1 <;> first | exact Or.inl ⟨by omega, by omega, show J 13 36 = J 13 36 from by first | rfl | assumption⟩ | exact Or.inr (Or.inl ⟨by omega, by omega, show J 13 36 = J 13 36 from by first | rfl | assumption⟩) | exact Or.inr (Or.inr (⟨by first | rfl | assumption, by omega, show J 13 36 = a0 from by first | rfl | assumption⟩)) | (exfalso; omega)), show (J 13 49 = J 13 49 ∧ J 13 36 = J 13 36) ∨ J 13 49 = J 13 49 + 1 from by first | exact Or.inl ⟨rfl, rfl⟩ | exact Or.inr (by assumption) | exact Or.inr rfl⟩ dX12_least_17
