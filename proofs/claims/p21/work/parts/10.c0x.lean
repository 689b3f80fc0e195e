theorem let_all {U : Nat → Nat → Int32} {k h h' v s m w a n : Int32} (eh : h = h') : ∀ c, isl c → LTR ((up2 (up2 (up2 (up2 (up2 (up2 (up2 (up2 U 154 107 k) 154 104 h) 154 118 v) 154 115 s) 154 109 m) 154 119 w) 154 97 a) 154 110 n) 154) c = SCL k h' v s m w a n c := by
  subst eh
  intro c hc
  rcases hc with e | e | e | e | e | e | e | e <;> subst e <;> rfl
set_option maxHeartbeats 4000000 in
set_option maxRecDepth 100000 in
theorem c_X12_puts_e (l : Launch) (g : gG) (J : Nat → Nat → Int32) (L : Nat → Nat → Int64) (I : Nat → Nat → Nat → Int32) (P : Nat → Nat → Nat → Option Nat) (E : Nat → Option Nat) (N : Nat → Nat) (sz : Nat) (a0 : Int32) (hwm : WM J) (hm : 0 ≤ a0.toInt ∧ a0.toInt < 10000) (hmn : a0.toInt < (J 13 31).toInt) (hcac : CAC J) : Met l yX12_puts (WS yX12_puts cX12_puts 2 none) (RM (6) 0 0) (PC g [.ref (g.2.2.1 13), .int a0] ((J, L, I, P, E, N), sgM g) sz) (va_Qv (fun (u : (Nat → Nat → Int32)) => (((J 116 a0.toNatClampNeg).toInt = 6 → (u 13 47).toInt = 0 ∧ (u 13 48).toInt = 0)) ∧ ((¬ (J 116 a0.toNatClampNeg).toInt = 6 → CAV J a0.toNatClampNeg (u 13 47).toInt (u 13 48).toInt)) ∧ (∀ c, isl c → LTR (u 154) c = SCL (J 116 a0.toNatClampNeg) (hrw a0.toInt) (J 118 a0.toNatClampNeg) (u 13 47) (u 13 48) (J 120 a0.toNatClampNeg) (J 13 31 - a0) (J 13 35) c) ∧ (CAC (hv J [146, 150, 151, 152, 154] [(13, 47), (13, 48)] u))) (fun u t => at_ g (FR g ((J, L, I, P, E, N), sgM g) sz) ((hv J [146, 150, 151, 152, 154] [(13, 47), (13, 48)] u, L, I, P, E, N), sgM g) t) (FR g ((J, L, I, P, E, N), sgM g) sz)) 0 0 (FR g ((J, L, I, P, E, N), sgM g) sz) := by
  refine ent (by decide +kernel) (Nat.le_of_ble_eq_true rfl) ?_
  intro p e s m below meth c ls hsz C hW hr hlocks hname hl
  generalize FR g ((J, L, I, P, E, N), sgM g) sz = A at C hW ⊢
  generalize hQ9 : (va_Qv (fun (u : (Nat → Nat → Int32)) => (((J 116 a0.toNatClampNeg).toInt = 6 → (u 13 47).toInt = 0 ∧ (u 13 48).toInt = 0)) ∧ ((¬ (J 116 a0.toNatClampNeg).toInt = 6 → CAV J a0.toNatClampNeg (u 13 47).toInt (u 13 48).toInt)) ∧ (∀ c, isl c → LTR (u 154) c = SCL (J 116 a0.toNatClampNeg) (hrw a0.toInt) (J 118 a0.toNatClampNeg) (u 13 47) (u 13 48) (J 120 a0.toNatClampNeg) (J 13 31 - a0) (J 13 35) c) ∧ (CAC (hv J [146, 150, 151, 152, 154] [(13, 47), (13, 48)] u))) (fun u t => at_ g A ((hv J [146, 150, 151, 152, 154] [(13, 47), (13, 48)] u, L, I, P, E, N), sgM g) t) A) = Q9
  have hx := C.1.1
  have hb := C.1.2.1
  have hts := C.1.2.2.2.2
  have hW : WB g A s.heap s.heap [] (J, L, I, P, E, N) (sgM g) := hW
  have hl : lv_has ls 2 [(0, .ref (g.2.2.1 13)), (1, .int a0)] := hl
  obtain ⟨H, hH⟩ : ∃ H : Heap, H = s.heap := ⟨_, rfl⟩
  obtain ⟨locs, hlocs⟩ : ∃ q : List Loc, q = [] := ⟨_, rfl⟩
  have hW : WB g A s.heap H locs (J, L, I, P, E, N) (sgM g) := by rw [hH, hlocs]; exact hW
  obtain ⟨⟨hnd1, hnd2, hon, hhm1, hhm2, hhN, hcu1, hcu2, hco1, hco2, hcN⟩, ⟨hrd1, hrd2⟩, ⟨hnw1, hnw2, hns1, hns2, hof⟩, ⟨htm1, htm2, hts_⟩, ⟨had1, had2, hrw1, hrw2, htp1, htp2⟩⟩ := id hwm
  refine start_ hH hlocs ?_
  refine lv_aload_n hx hb dX12_puts_0 rfl (lv_at hl 0 rfl) ?_
  refine lv_iload_n hx hb dX12_puts_1 rfl (lv_at hl 1 rfl) ?_
  refine cv_ C hW (runV (x := (g.2.2.1 13)) (As := [.int a0]) (rest := []) (T := ((J, L, I, P, E, N), sgM g)) C hW (c_X12_counts_e l g J L I P E N H.size a0 hwm (show 0 ≤ a0.toInt ∧ a0.toInt < 10000 from by omega) (show a0.toInt < (J 13 31).toInt from by omega) (show CAC J from hcac)) mi_X12_counts tw_1390 (recv_ (T := ((J, L, I, P, E, N), sgM g)) C hW (mm_ rfl) rfl rfl) ⟨rfl, rfl, Nat.le_of_ble_eq_true rfl, Nat.le_of_ble_eq_true rfl⟩ rfl hl.1 rfl (Nat.le_of_ble_eq_true rfl) dX12_puts_2 ⟨Nat.le_of_ble_eq_true rfl, Nat.le_of_ble_eq_true rfl⟩) (fun u1 H locs hp1 hW => ?_)
  obtain ⟨hf1_0, hf1_1, hf1_2⟩ : ((J 116 a0.toNatClampNeg).toInt = 6 → (u1 13 47).toInt = 0 ∧ (u1 13 48).toInt = 0) ∧ (¬ (J 116 a0.toNatClampNeg).toInt = 6 → CAV J a0.toNatClampNeg (u1 13 47).toInt (u1 13 48).toInt) ∧ (CAC (hv J [146, 150, 151, 152] [(13, 47), (13, 48)] u1)) := hp1
  have hW : WB g A s.heap H locs ((hv J [146, 150, 151, 152] [(13, 47), (13, 48)] u1), L, I, P, E, N) (sgM g) := hW
  have hC0 := hf1_0
  have hC1 := hf1_1
  have hC2 := hf1_2
  refine lv_aload_n hx hb dX12_puts_5 rfl (lv_at hl 0 rfl) ?_
  refine rg_13_54 C hW (mm_ rfl) tw_1077 dX12_puts_6 ?_
  refine lv_bipush (v := 107) hx hb dX12_puts_9 (by decide) ?_
  refine lv_aload_n hx hb dX12_puts_11 rfl (lv_at hl 0 rfl) ?_
  refine rg_13_16 C hW (mm_ rfl) tw_1039 dX12_puts_12 ?_
  refine lv_iload_n hx hb dX12_puts_15 rfl (lv_at hl 1 rfl) ?_
  have hin : vp_in a0 10000 := tin rfl (by omega)
  refine ra_116 C hW (mm_ rfl) hin dX12_puts_16 ?_
  refine lv_topi (fun x2 (e2 : x2 = J 116 a0.toNatClampNeg) => ?_)
  have hin : vp_in 107 128 := tin kp107 (by omega)
  refine rs_154 C hW (mm_ rfl) hin dX12_puts_17 (fun H locs hW => ?_)
  have hW : WB g A s.heap H locs ((up2 (hv J [146, 150, 151, 152] [(13, 47), (13, 48)] u1) 154 107 x2), L, I, P, E, N) (sgM g) := hW
  refine lv_aload_n hx hb dX12_puts_18 rfl (lv_at hl 0 rfl) ?_
  refine rg_13_54 C hW (mm_ rfl) tw_1077 dX12_puts_19 ?_
  refine lv_bipush (v := 104) hx hb dX12_puts_22 (by decide) ?_
  refine lv_iload_n hx hb dX12_puts_24 rfl (lv_at hl 1 rfl) ?_
  refine lv_bipush (v := 60) hx hb dX12_puts_25 (by decide) ?_
  refine lv_idiv hx hb dX12_puts_27 (by decide) ?_
  refine lv_topi (fun x3 (e3 : x3 = a0 / 60) => ?_)
  have t3 : x3.toInt = a0.toInt.tdiv 60 := tdiv e3 rfl kp60 (by decide)
  try rw [tdp (a := a0.toInt) (by omega)] at t3
  refine lv_bipush (v := 24) hx hb dX12_puts_28 (by decide) ?_
  refine lv_irem hx hb dX12_puts_30 (by decide) ?_
  refine lv_topi (fun x4 (e4 : x4 = x3 - x3 / 24 * 24) => ?_)
  have t4 : x4.toInt = x3.toInt.tmod 24 := tmod e4 rfl kp24 (by decide) (by decide)
  try rw [tmp (a := x3.toInt) (by omega)] at t4
  have hin : vp_in 104 128 := tin kp104 (by omega)
  refine rs_154 C hW (mm_ rfl) hin dX12_puts_31 (fun H locs hW => ?_)
  have hW : WB g A s.heap H locs ((up2 (up2 (hv J [146, 150, 151, 152] [(13, 47), (13, 48)] u1) 154 107 x2) 154 104 x4), L, I, P, E, N) (sgM g) := hW
  refine lv_aload_n hx hb dX12_puts_32 rfl (lv_at hl 0 rfl) ?_
  refine rg_13_54 C hW (mm_ rfl) tw_1077 dX12_puts_33 ?_
  refine lv_bipush (v := 118) hx hb dX12_puts_36 (by decide) ?_
  refine lv_aload_n hx hb dX12_puts_38 rfl (lv_at hl 0 rfl) ?_
  refine rg_13_18 C hW (mm_ rfl) tw_1041 dX12_puts_39 ?_
  refine lv_iload_n hx hb dX12_puts_42 rfl (lv_at hl 1 rfl) ?_
  have hin : vp_in a0 10000 := tin rfl (by omega)
  refine ra_118 C hW (mm_ rfl) hin dX12_puts_43 ?_
  refine lv_topi (fun x5 (e5 : x5 = J 118 a0.toNatClampNeg) => ?_)
  have hin : vp_in 118 128 := tin kp118 (by omega)
  refine rs_154 C hW (mm_ rfl) hin dX12_puts_44 (fun H locs hW => ?_)
  have hW : WB g A s.heap H locs ((up2 (up2 (up2 (hv J [146, 150, 151, 152] [(13, 47), (13, 48)] u1) 154 107 x2) 154 104 x4) 154 118 x5), L, I, P, E, N) (sgM g) := hW
  refine lv_aload_n hx hb dX12_puts_45 rfl (lv_at hl 0 rfl) ?_
  refine rg_13_54 C hW (mm_ rfl) tw_1077 dX12_puts_46 ?_
  refine lv_bipush (v := 115) hx hb dX12_puts_49 (by decide) ?_
  refine lv_aload_n hx hb dX12_puts_51 rfl (lv_at hl 0 rfl) ?_
  refine rg_13_47 C hW (mm_ rfl) tw_1070 dX12_puts_52 ?_
  refine lv_as (u1 13 47) rfl ?_
  have hin : vp_in 115 128 := tin kp115 (by omega)
  refine rs_154 C hW (mm_ rfl) hin dX12_puts_55 (fun H locs hW => ?_)
  have hW : WB g A s.heap H locs ((up2 (up2 (up2 (up2 (hv J [146, 150, 151, 152] [(13, 47), (13, 48)] u1) 154 107 x2) 154 104 x4) 154 118 x5) 154 115 (u1 13 47)), L, I, P, E, N) (sgM g) := hW
  refine lv_aload_n hx hb dX12_puts_56 rfl (lv_at hl 0 rfl) ?_
  refine rg_13_54 C hW (mm_ rfl) tw_1077 dX12_puts_57 ?_
  refine lv_bipush (v := 109) hx hb dX12_puts_60 (by decide) ?_
  refine lv_aload_n hx hb dX12_puts_62 rfl (lv_at hl 0 rfl) ?_
  refine rg_13_48 C hW (mm_ rfl) tw_1071 dX12_puts_63 ?_
  refine lv_as (u1 13 48) rfl ?_
  have hin : vp_in 109 128 := tin kp109 (by omega)
  refine rs_154 C hW (mm_ rfl) hin dX12_puts_66 (fun H locs hW => ?_)
  have hW : WB g A s.heap H locs ((up2 (up2 (up2 (up2 (up2 (hv J [146, 150, 151, 152] [(13, 47), (13, 48)] u1) 154 107 x2) 154 104 x4) 154 118 x5) 154 115 (u1 13 47)) 154 109 (u1 13 48)), L, I, P, E, N) (sgM g) := hW
  refine lv_aload_n hx hb dX12_puts_67 rfl (lv_at hl 0 rfl) ?_
  refine rg_13_54 C hW (mm_ rfl) tw_1077 dX12_puts_68 ?_
  refine lv_bipush (v := 119) hx hb dX12_puts_71 (by decide) ?_
  refine lv_aload_n hx hb dX12_puts_73 rfl (lv_at hl 0 rfl) ?_
  refine rg_13_20 C hW (mm_ rfl) tw_1043 dX12_puts_74 ?_
  refine lv_iload_n hx hb dX12_puts_77 rfl (lv_at hl 1 rfl) ?_
  have hin : vp_in a0 10000 := tin rfl (by omega)
  refine ra_120 C hW (mm_ rfl) hin dX12_puts_78 ?_
  refine lv_topi (fun x6 (e6 : x6 = J 120 a0.toNatClampNeg) => ?_)
  have hin : vp_in 119 128 := tin kp119 (by omega)
  refine rs_154 C hW (mm_ rfl) hin dX12_puts_79 (fun H locs hW => ?_)
  have hW : WB g A s.heap H locs ((up2 (up2 (up2 (up2 (up2 (up2 (hv J [146, 150, 151, 152] [(13, 47), (13, 48)] u1) 154 107 x2) 154 104 x4) 154 118 x5) 154 115 (u1 13 47)) 154 109 (u1 13 48)) 154 119 x6), L, I, P, E, N) (sgM g) := hW
  refine lv_aload_n hx hb dX12_puts_80 rfl (lv_at hl 0 rfl) ?_
  refine rg_13_54 C hW (mm_ rfl) tw_1077 dX12_puts_81 ?_
  refine lv_bipush (v := 97) hx hb dX12_puts_84 (by decide) ?_
  refine lv_aload_n hx hb dX12_puts_86 rfl (lv_at hl 0 rfl) ?_
  refine rg_13_31 C hW (mm_ rfl) tw_1054 dX12_puts_87 ?_
  refine lv_as (J 13 31) rfl ?_
  refine lv_iload_n hx hb dX12_puts_90 rfl (lv_at hl 1 rfl) ?_
  refine lv_isub hx hb dX12_puts_91 ?_
  refine lv_topi (fun x7 (e7 : x7 = (J 13 31) - a0) => ?_)
  try have t7 : x7.toInt = (J 13 31).toInt - a0.toInt := tsub e7 rfl rfl (by omega)
  have hin : vp_in 97 128 := tin kp97 (by omega)
  refine rs_154 C hW (mm_ rfl) hin dX12_puts_92 (fun H locs hW => ?_)
  have hW : WB g A s.heap H locs ((up2 (up2 (up2 (up2 (up2 (up2 (up2 (hv J [146, 150, 151, 152] [(13, 47), (13, 48)] u1) 154 107 x2) 154 104 x4) 154 118 x5) 154 115 (u1 13 47)) 154 109 (u1 13 48)) 154 119 x6) 154 97 x7), L, I, P, E, N) (sgM g) := hW
  refine lv_aload_n hx hb dX12_puts_93 rfl (lv_at hl 0 rfl) ?_
  refine rg_13_54 C hW (mm_ rfl) tw_1077 dX12_puts_94 ?_
  refine lv_bipush (v := 110) hx hb dX12_puts_97 (by decide) ?_
  refine lv_aload_n hx hb dX12_puts_99 rfl (lv_at hl 0 rfl) ?_
  refine rg_13_35 C hW (mm_ rfl) tw_1058 dX12_puts_100 ?_
  refine lv_as (J 13 35) rfl ?_
  have hin : vp_in 110 128 := tin kp110 (by omega)
  refine rs_154 C hW (mm_ rfl) hin dX12_puts_103 (fun H locs hW => ?_)
  have hW : WB g A s.heap H locs ((up2 (up2 (up2 (up2 (up2 (up2 (up2 (up2 (hv J [146, 150, 151, 152] [(13, 47), (13, 48)] u1) 154 107 x2) 154 104 x4) 154 118 x5) 154 115 (u1 13 47)) 154 109 (u1 13 48)) 154 119 x6) 154 97 x7) 154 110 (J 13 35)), L, I, P, E, N) (sgM g) := hW
  have hWr : WB g A s.heap H locs (hv J [146, 150, 151, 152, 154] [(13, 47), (13, 48)] (up2 (up2 (up2 (up2 (up2 (up2 (up2 (up2 (hv J [146, 150, 151, 152] [(13, 47), (13, 48)] u1) 154 107 x2) 154 104 x4) 154 118 x5) 154 115 (u1 13 47)) 154 109 (u1 13 48)) 154 119 x6) 154 97 x7) 154 110 (J 13 35)), L, I, P, E, N) (sgM g) := by
    rw [← ag_hvE (J := J) (R := [146, 150, 151, 152, 154]) (F := [(13, 47), (13, 48)]) (ag_up (Or.inl rfl) (ag_up (Or.inl rfl) (ag_up (Or.inl rfl) (ag_up (Or.inl rfl) (ag_up (Or.inl rfl) (ag_up (Or.inl rfl) (ag_up (Or.inl rfl) (ag_up (Or.inl rfl) (ag_hv rfl rfl ag_rf)))))))))]
    exact hW
  subst hQ9
  exact end_v C hr hlocks (up2 (up2 (up2 (up2 (up2 (up2 (up2 (up2 (hv J [146, 150, 151, 152] [(13, 47), (13, 48)] u1) 154 107 x2) 154 104 x4) 154 118 x5) 154 115 (u1 13 47)) 154 109 (u1 13 48)) 154 119 x6) 154 97 x7) 154 110 (J 13 35)) hWr ⟨show ((J 116 a0.toNatClampNeg).toInt = 6 → (u1 13 47).toInt = 0 ∧ (u1 13 48).toInt = 0) from by exact hC0, show (¬ (J 116 a0.toNatClampNeg).toInt = 6 → CAV J a0.toNatClampNeg (u1 13 47).toInt (u1 13 48).toInt) from by exact hC1, show ∀ c, isl c → LTR ((up2 (up2 (up2 (up2 (up2 (up2 (up2 (up2 J 154 107 x2) 154 104 x4) 154 118 x5) 154 115 (u1 13 47)) 154 109 (u1 13 48)) 154 119 x6) 154 97 x7) 154 110 (J 13 35)) 154) c = SCL (J 116 a0.toNatClampNeg) (hrw a0.toInt) (J 118 a0.toNatClampNeg) (u1 13 47) (u1 13 48) (J 120 a0.toNatClampNeg) (J 13 31 - a0) (J 13 35) c from by (rw [← e2, ← e5, ← e6, ← e7]; exact let_all (hrw_eq (by omega))), show CAC (hv J [146, 150, 151, 152, 154] [(13, 47), (13, 48)] (up2 (up2 (up2 (up2 (up2 (up2 (up2 (up2 (hv J [146, 150, 151, 152] [(13, 47), (13, 48)] u1) 154 107 x2) 154 104 x4) 154 118 x5) 154 115 (u1 13 47)) 154 109 (u1 13 48)) 154 119 x6) 154 97 x7) 154 110 (J 13 35))) from by rw [← ag_hvE (J := J) (R := [146, 150, 151, 152, 154]) (F := [(13, 47), (13, 48)]) (ag_up (Or.inl rfl) (ag_up (Or.inl rfl) (ag_up (Or.inl rfl) (ag_up (Or.inl rfl) (ag_up (Or.inl rfl) (ag_up (Or.inl rfl) (ag_up (Or.inl rfl) (ag_up (Or.inl rfl) (ag_hv rfl rfl ag_rf)))))))))]; exact cac_e (J := (hv J [146, 150, 151, 152] [(13, 47), (13, 48)] u1)) ⟨rfl, rfl, rfl, rfl, rfl, rfl, rfl, rfl, rfl, rfl, rfl, rfl, rfl, rfl, rfl, rfl, rfl, rfl, rfl, rfl⟩ rfl rfl rfl hC2⟩ dX12_puts_104

set_option maxHeartbeats 4000000 in
set_option maxRecDepth 100000 in
theorem c_X12_worthOf_e (l : Launch) (g : gG) (J : Nat → Nat → Int32) (L : Nat → Nat → Int64) (I : Nat → Nat → Nat → Int32) (P : Nat → Nat → Nat → Option Nat) (E : Nat → Option Nat) (N : Nat → Nat) (sz : Nat) (a0 : Int32) (a1 : Int32) (hwm : WM J) (hm : 0 ≤ a1.toInt ∧ a1.toInt < (J 13 31).toInt) (hcac : CAC J) : Met l yX12_worthOf (WS yX12_worthOf cX12_worthOf 3 (some .int)) (RM (33) 0 0) (PC g [.ref (g.2.2.1 13), .int a0, .int a1] ((J, L, I, P, E, N), sgM g) sz) (va_Qi (fun (r : Int32) (u : (Nat → Nat → Int32)) => (∃ s o d : Int32, ((J 116 a1.toNatClampNeg).toInt = 6 → s.toInt = 0 ∧ o.toInt = 0) ∧ (¬ (J 116 a1.toNatClampNeg).toInt = 6 → CAV J a1.toNatClampNeg s.toInt o.toInt) ∧ ((¬ (a0.toInt : Int) = 2 → d.toInt = 0) ∧ ((a0.toInt : Int) = 2 → d = o)) ∧ WVM (J 121) (J 122) (J 123) (J 124) (SCL (J 116 a1.toNatClampNeg) (hrw a1.toInt) (J 118 a1.toNatClampNeg) s o (J 120 a1.toNatClampNeg) (J 13 31 - a1) (J 13 35)) (J 13 40).toInt a0.toInt a1.toInt d r) ∧ (CAC (hv J [146, 150, 151, 152, 154] [(13, 47), (13, 48), (13, 56), (13, 57), (13, 58), (13, 59), (13, 60)] u))) (fun u t => at_ g (FR g ((J, L, I, P, E, N), sgM g) sz) ((hv J [146, 150, 151, 152, 154] [(13, 47), (13, 48), (13, 56), (13, 57), (13, 58), (13, 59), (13, 60)] u, L, I, P, E, N), sgM g) t) (FR g ((J, L, I, P, E, N), sgM g) sz)) 0 0 (FR g ((J, L, I, P, E, N), sgM g) sz) := by
  refine ent (by decide +kernel) (Nat.le_of_ble_eq_true rfl) ?_
  intro p e s m below meth c ls hsz C hW hr hlocks hname hl
  generalize FR g ((J, L, I, P, E, N), sgM g) sz = A at C hW ⊢
  generalize hQ9 : (va_Qi (fun (r : Int32) (u : (Nat → Nat → Int32)) => (∃ s o d : Int32, ((J 116 a1.toNatClampNeg).toInt = 6 → s.toInt = 0 ∧ o.toInt = 0) ∧ (¬ (J 116 a1.toNatClampNeg).toInt = 6 → CAV J a1.toNatClampNeg s.toInt o.toInt) ∧ ((¬ (a0.toInt : Int) = 2 → d.toInt = 0) ∧ ((a0.toInt : Int) = 2 → d = o)) ∧ WVM (J 121) (J 122) (J 123) (J 124) (SCL (J 116 a1.toNatClampNeg) (hrw a1.toInt) (J 118 a1.toNatClampNeg) s o (J 120 a1.toNatClampNeg) (J 13 31 - a1) (J 13 35)) (J 13 40).toInt a0.toInt a1.toInt d r) ∧ (CAC (hv J [146, 150, 151, 152, 154] [(13, 47), (13, 48), (13, 56), (13, 57), (13, 58), (13, 59), (13, 60)] u))) (fun u t => at_ g A ((hv J [146, 150, 151, 152, 154] [(13, 47), (13, 48), (13, 56), (13, 57), (13, 58), (13, 59), (13, 60)] u, L, I, P, E, N), sgM g) t) A) = Q9
  have hx := C.1.1
  have hb := C.1.2.1
  have hts := C.1.2.2.2.2
  have hW : WB g A s.heap s.heap [] (J, L, I, P, E, N) (sgM g) := hW
  have hl : lv_has ls 3 [(0, .ref (g.2.2.1 13)), (1, .int a0), (2, .int a1)] := hl
  obtain ⟨H, hH⟩ : ∃ H : Heap, H = s.heap := ⟨_, rfl⟩
  obtain ⟨locs, hlocs⟩ : ∃ q : List Loc, q = [] := ⟨_, rfl⟩
  have hW : WB g A s.heap H locs (J, L, I, P, E, N) (sgM g) := by rw [hH, hlocs]; exact hW
  obtain ⟨⟨hnd1, hnd2, hon, hhm1, hhm2, hhN, hcu1, hcu2, hco1, hco2, hcN⟩, ⟨hrd1, hrd2⟩, ⟨hnw1, hnw2, hns1, hns2, hof⟩, ⟨htm1, htm2, hts_⟩, ⟨had1, had2, hrw1, hrw2, htp1, htp2⟩⟩ := id hwm
  refine start_ hH hlocs ?_
  refine lv_aload_n hx hb dX12_worthOf_0 rfl (lv_at hl 0 rfl) ?_
  refine lv_iload_n hx hb dX12_worthOf_1 rfl (lv_at hl 2 rfl) ?_
  refine cv_ C hW (runV (x := (g.2.2.1 13)) (As := [.int a1]) (rest := []) (T := ((J, L, I, P, E, N), sgM g)) C hW (c_X12_puts_e l g J L I P E N H.size a1 hwm (show 0 ≤ a1.toInt ∧ a1.toInt < 10000 from by omega) (show a1.toInt < (J 13 31).toInt from by omega) (show CAC J from hcac)) mi_X12_puts tw_1428 (recv_ (T := ((J, L, I, P, E, N), sgM g)) C hW (mm_ rfl) rfl rfl) ⟨rfl, rfl, Nat.le_of_ble_eq_true rfl, Nat.le_of_ble_eq_true rfl⟩ rfl hl.1 rfl (Nat.le_of_ble_eq_true rfl) dX12_worthOf_2 ⟨Nat.le_of_ble_eq_true rfl, Nat.le_of_ble_eq_true rfl⟩) (fun u1 H locs hp1 hW => ?_)
  obtain ⟨hf1_0, hf1_1, hf1_2, hf1_3⟩ : (((J 116 a1.toNatClampNeg).toInt = 6 → (u1 13 47).toInt = 0 ∧ (u1 13 48).toInt = 0)) ∧ ((¬ (J 116 a1.toNatClampNeg).toInt = 6 → CAV J a1.toNatClampNeg (u1 13 47).toInt (u1 13 48).toInt)) ∧ (∀ c, isl c → LTR (u1 154) c = SCL (J 116 a1.toNatClampNeg) (hrw a1.toInt) (J 118 a1.toNatClampNeg) (u1 13 47) (u1 13 48) (J 120 a1.toNatClampNeg) (J 13 31 - a1) (J 13 35) c) ∧ (CAC (hv J [146, 150, 151, 152, 154] [(13, 47), (13, 48)] u1)) := hp1
  have hW : WB g A s.heap H locs ((hv J [146, 150, 151, 152, 154] [(13, 47), (13, 48)] u1), L, I, P, E, N) (sgM g) := hW
  have hC0 := hf1_0
  have hC1 := hf1_1
  have hLT := hf1_2
  have hCC := hf1_3
  refine lv_aload_n hx hb dX12_worthOf_5 rfl (lv_at hl 0 rfl) ?_
  refine lv_iload_n hx hb dX12_worthOf_6 rfl (lv_at hl 1 rfl) ?_
  refine lv_iload_n hx hb dX12_worthOf_7 rfl (lv_at hl 2 rfl) ?_
  refine lv_iload_n hx hb dX12_worthOf_8 rfl (lv_at hl 1 rfl) ?_
  refine lv_iconst (v := 2) hx hb dX12_worthOf_9 (by decide) ?_
  refine lv_icmp_ne (tgt := 20) hx hb dX12_worthOf_10 (by decide) (fun c2 => ?_) (fun c2 => ?_)
  · have c2 : ¬ a0.toInt = 2 := tne rfl kp2 c2
    refine lv_iconst (v := 0) hx hb dX12_worthOf_20 (by decide) ?_
    refine ci_ C hW (runV (x := (g.2.2.1 13)) (As := [.int a0, .int a1, .int 0]) (rest := []) (T := (((hv J [146, 150, 151, 152, 154] [(13, 47), (13, 48)] u1), L, I, P, E, N), sgM g)) C hW (c_X12_worth_e l g (hv J [146, 150, 151, 152, 154] [(13, 47), (13, 48)] u1) L I P E N H.size a0 a1 0 hwm) mi_X12_worth tw_1334 (recv_ (T := (((hv J [146, 150, 151, 152, 154] [(13, 47), (13, 48)] u1), L, I, P, E, N), sgM g)) C hW (mm_ rfl) rfl rfl) ⟨rfl, rfl, Nat.le_of_ble_eq_true rfl, Nat.le_of_ble_eq_true rfl⟩ rfl hl.1 rfl (Nat.le_of_ble_eq_true rfl) dX12_worthOf_21 ⟨Nat.le_of_ble_eq_true rfl, Nat.le_of_ble_eq_true rfl⟩) (fun r3 u3 H locs hp3 hW => ?_)
    have hf3_0 : (WVM (J 121) (J 122) (J 123) (J 124) (LTR (u1 154)) (J 13 40).toInt a0.toInt a1.toInt 0 r3) := hp3
    clear hp3
    have hW : WB g A s.heap H locs ((hv (hv J [146, 150, 151, 152, 154] [(13, 47), (13, 48)] u1) [] [(13, 56), (13, 57), (13, 58), (13, 59), (13, 60)] u3), L, I, P, E, N) (sgM g) := hW
    have hWV := hf3_0
    have hWr : WB g A s.heap H locs (hv J [146, 150, 151, 152, 154] [(13, 47), (13, 48), (13, 56), (13, 57), (13, 58), (13, 59), (13, 60)] (hv (hv J [146, 150, 151, 152, 154] [(13, 47), (13, 48)] u1) [] [(13, 56), (13, 57), (13, 58), (13, 59), (13, 60)] u3), L, I, P, E, N) (sgM g) := by
      rw [← ag_hvE (J := J) (R := [146, 150, 151, 152, 154]) (F := [(13, 47), (13, 48), (13, 56), (13, 57), (13, 58), (13, 59), (13, 60)]) (ag_hv rfl rfl (ag_hv rfl rfl ag_rf))]
      exact hW
    subst hQ9
    exact end_i C hr hlocks (hv (hv J [146, 150, 151, 152, 154] [(13, 47), (13, 48)] u1) [] [(13, 56), (13, 57), (13, 58), (13, 59), (13, 60)] u3) hWr ⟨show ∃ s o d : Int32, ((J 116 a1.toNatClampNeg).toInt = 6 → s.toInt = 0 ∧ o.toInt = 0) ∧ (¬ (J 116 a1.toNatClampNeg).toInt = 6 → CAV J a1.toNatClampNeg s.toInt o.toInt) ∧ ((¬ (a0.toInt : Int) = 2 → d.toInt = 0) ∧ ((a0.toInt : Int) = 2 → d = o)) ∧ WVM (J 121) (J 122) (J 123) (J 124) (SCL (J 116 a1.toNatClampNeg) (hrw a1.toInt) (J 118 a1.toNatClampNeg) s o (J 120 a1.toNatClampNeg) (J 13 31 - a1) (J 13 35)) (J 13 40).toInt a0.toInt a1.toInt d r3 from by (refine ⟨_, _, _, hC0, hC1, ⟨(fun _ => kp0), (fun h9 => by exfalso; omega)⟩, wvm_L (fun c hc => (hLT c hc).symm) hWV⟩), show CAC (hv J [146, 150, 151, 152, 154] [(13, 47), (13, 48), (13, 56), (13, 57), (13, 58), (13, 59), (13, 60)] (hv (hv J [146, 150, 151, 152, 154] [(13, 47), (13, 48)] u1) [] [(13, 56), (13, 57), (13, 58), (13, 59), (13, 60)] u3)) from by rw [← ag_hvE (J := J) (R := [146, 150, 151, 152, 154]) (F := [(13, 47), (13, 48), (13, 56), (13, 57), (13, 58), (13, 59), (13, 60)]) (ag_hv rfl rfl (ag_hv rfl rfl ag_rf))]; exact cac_e (J := (hv J [146, 150, 151, 152, 154] [(13, 47), (13, 48)] u1)) ⟨rfl, rfl, rfl, rfl, rfl, rfl, rfl, rfl, rfl, rfl, rfl, rfl, rfl, rfl, rfl, rfl, rfl, rfl, rfl, rfl⟩ rfl rfl rfl hCC⟩ dX12_worthOf_24
  · have c2 : a0.toInt = 2 := teq rfl kp2 c2
    refine lv_aload_n hx hb dX12_worthOf_13 rfl (lv_at hl 0 rfl) ?_
    refine rg_13_48 C hW (mm_ rfl) tw_1071 dX12_worthOf_14 ?_
    refine lv_as (u1 13 48) rfl ?_
    refine lv_goto (tgt := 21) hx hb dX12_worthOf_17 (by decide) ?_
    refine ci_ C hW (runV (x := (g.2.2.1 13)) (As := [.int a0, .int a1, .int (u1 13 48)]) (rest := []) (T := (((hv J [146, 150, 151, 152, 154] [(13, 47), (13, 48)] u1), L, I, P, E, N), sgM g)) C hW (c_X12_worth_e l g (hv J [146, 150, 151, 152, 154] [(13, 47), (13, 48)] u1) L I P E N H.size a0 a1 (u1 13 48) hwm) mi_X12_worth tw_1334 (recv_ (T := (((hv J [146, 150, 151, 152, 154] [(13, 47), (13, 48)] u1), L, I, P, E, N), sgM g)) C hW (mm_ rfl) rfl rfl) ⟨rfl, rfl, Nat.le_of_ble_eq_true rfl, Nat.le_of_ble_eq_true rfl⟩ rfl hl.1 rfl (Nat.le_of_ble_eq_true rfl) dX12_worthOf_21 ⟨Nat.le_of_ble_eq_true rfl, Nat.le_of_ble_eq_true rfl⟩) (fun r4 u4 H locs hp4 hW => ?_)
    have hf4_0 : (WVM (J 121) (J 122) (J 123) (J 124) (LTR (u1 154)) (J 13 40).toInt a0.toInt a1.toInt (u1 13 48) r4) := hp4
    clear hp4
    have hW : WB g A s.heap H locs ((hv (hv J [146, 150, 151, 152, 154] [(13, 47), (13, 48)] u1) [] [(13, 56), (13, 57), (13, 58), (13, 59), (13, 60)] u4), L, I, P, E, N) (sgM g) := hW
    have hWV := hf4_0
    have hWr : WB g A s.heap H locs (hv J [146, 150, 151, 152, 154] [(13, 47), (13, 48), (13, 56), (13, 57), (13, 58), (13, 59), (13, 60)] (hv (hv J [146, 150, 151, 152, 154] [(13, 47), (13, 48)] u1) [] [(13, 56), (13, 57), (13, 58), (13, 59), (13, 60)] u4), L, I, P, E, N) (sgM g) := by
      rw [← ag_hvE (J := J) (R := [146, 150, 151, 152, 154]) (F := [(13, 47), (13, 48), (13, 56), (13, 57), (13, 58), (13, 59), (13, 60)]) (ag_hv rfl rfl (ag_hv rfl rfl ag_rf))]
      exact hW
    subst hQ9
    exact end_i C hr hlocks (hv (hv J [146, 150, 151, 152, 154] [(13, 47), (13, 48)] u1) [] [(13, 56), (13, 57), (13, 58), (13, 59), (13, 60)] u4) hWr ⟨show ∃ s o d : Int32, ((J 116 a1.toNatClampNeg).toInt = 6 → s.toInt = 0 ∧ o.toInt = 0) ∧ (¬ (J 116 a1.toNatClampNeg).toInt = 6 → CAV J a1.toNatClampNeg s.toInt o.toInt) ∧ ((¬ (a0.toInt : Int) = 2 → d.toInt = 0) ∧ ((a0.toInt : Int) = 2 → d = o)) ∧ WVM (J 121) (J 122) (J 123) (J 124) (SCL (J 116 a1.toNatClampNeg) (hrw a1.toInt) (J 118 a1.toNatClampNeg) s o (J 120 a1.toNatClampNeg) (J 13 31 - a1) (J 13 35)) (J 13 40).toInt a0.toInt a1.toInt d r4 from by (refine ⟨_, _, _, hC0, hC1, ⟨(fun h9 => absurd (by omega) h9), (fun _ => rfl)⟩, wvm_L (fun c hc => (hLT c hc).symm) hWV⟩), show CAC (hv J [146, 150, 151, 152, 154] [(13, 47), (13, 48), (13, 56), (13, 57), (13, 58), (13, 59), (13, 60)] (hv (hv J [146, 150, 151, 152, 154] [(13, 47), (13, 48)] u1) [] [(13, 56), (13, 57), (13, 58), (13, 59), (13, 60)] u4)) from by rw [← ag_hvE (J := J) (R := [146, 150, 151, 152, 154]) (F := [(13, 47), (13, 48), (13, 56), (13, 57), (13, 58), (13, 59), (13, 60)]) (ag_hv rfl rfl (ag_hv rfl rfl ag_rf))]; exact cac_e (J := (hv J [146, 150, 151, 152, 154] [(13, 47), (13, 48)] u1)) ⟨rfl, rfl, rfl, rfl, rfl, rfl, rfl, rfl, rfl, rfl, rfl, rfl, rfl, rfl, rfl, rfl, rfl, rfl, rfl, rfl⟩ rfl rfl rfl hCC⟩ dX12_worthOf_24

set_option maxHeartbeats 4000000 in
set_option maxRecDepth 100000 in
theorem c_X12_worth__e (l : Launch) (g : gG) (J : Nat → Nat → Int32) (L : Nat → Nat → Int64) (I : Nat → Nat → Nat → Int32) (P : Nat → Nat → Nat → Option Nat) (E : Nat → Option Nat) (N : Nat → Nat) (sz : Nat) (a0 : Int32) (a1 : Int32) (hwm : WM J) (hcac : CAC J) : Met l yX12_worth_ (WS yX12_worth_ cX12_worth_ 3 (some .int)) (RM (34) 0 0) (PC g [.ref (g.2.2.1 13), .int a0, .int a1] ((J, L, I, P, E, N), sgM g) sz) (va_Qi (fun (r : Int32) (u : (Nat → Nat → Int32)) => ((r.toInt = 1000000001 ∧ (¬ (0 ≤ a1.toInt ∧ a1.toInt < (J 13 31).toInt))) ∨ (r.toInt = 1000000002 ∧ ((0 ≤ a1.toInt ∧ a1.toInt < (J 13 31).toInt) ∧ (a0.toInt < 0 ∨ 2 < a0.toInt))) ∨ (r = r ∧ ((0 ≤ a1.toInt ∧ a1.toInt < (J 13 31).toInt) ∧ 0 ≤ a0.toInt ∧ a0.toInt ≤ 2) ∧ (∃ s o d : Int32, ((J 116 a1.toNatClampNeg).toInt = 6 → s.toInt = 0 ∧ o.toInt = 0) ∧ (¬ (J 116 a1.toNatClampNeg).toInt = 6 → CAV J a1.toNatClampNeg s.toInt o.toInt) ∧ ((¬ (a0.toInt : Int) = 2 → d.toInt = 0) ∧ ((a0.toInt : Int) = 2 → d = o)) ∧ WVM (J 121) (J 122) (J 123) (J 124) (SCL (J 116 a1.toNatClampNeg) (hrw a1.toInt) (J 118 a1.toNatClampNeg) s o (J 120 a1.toNatClampNeg) (J 13 31 - a1) (J 13 35)) (J 13 40).toInt a0.toInt a1.toInt d r))) ∧ (CAC (hv J [100, 146, 150, 151, 152, 154] [(13, 47), (13, 48), (13, 56), (13, 57), (13, 58), (13, 59), (13, 60)] u))) (fun u t => at_ g (FR g ((J, L, I, P, E, N), sgM g) sz) ((hv J [100, 146, 150, 151, 152, 154] [(13, 47), (13, 48), (13, 56), (13, 57), (13, 58), (13, 59), (13, 60)] u, L, I, P, E, N), sgM g) t) (FR g ((J, L, I, P, E, N), sgM g) sz)) 0 0 (FR g ((J, L, I, P, E, N), sgM g) sz) := by
  refine ent (by decide +kernel) (Nat.le_of_ble_eq_true rfl) ?_
  intro p e s m below meth c ls hsz C hW hr hlocks hname hl
  generalize FR g ((J, L, I, P, E, N), sgM g) sz = A at C hW ⊢
  generalize hQ9 : (va_Qi (fun (r : Int32) (u : (Nat → Nat → Int32)) => ((r.toInt = 1000000001 ∧ (¬ (0 ≤ a1.toInt ∧ a1.toInt < (J 13 31).toInt))) ∨ (r.toInt = 1000000002 ∧ ((0 ≤ a1.toInt ∧ a1.toInt < (J 13 31).toInt) ∧ (a0.toInt < 0 ∨ 2 < a0.toInt))) ∨ (r = r ∧ ((0 ≤ a1.toInt ∧ a1.toInt < (J 13 31).toInt) ∧ 0 ≤ a0.toInt ∧ a0.toInt ≤ 2) ∧ (∃ s o d : Int32, ((J 116 a1.toNatClampNeg).toInt = 6 → s.toInt = 0 ∧ o.toInt = 0) ∧ (¬ (J 116 a1.toNatClampNeg).toInt = 6 → CAV J a1.toNatClampNeg s.toInt o.toInt) ∧ ((¬ (a0.toInt : Int) = 2 → d.toInt = 0) ∧ ((a0.toInt : Int) = 2 → d = o)) ∧ WVM (J 121) (J 122) (J 123) (J 124) (SCL (J 116 a1.toNatClampNeg) (hrw a1.toInt) (J 118 a1.toNatClampNeg) s o (J 120 a1.toNatClampNeg) (J 13 31 - a1) (J 13 35)) (J 13 40).toInt a0.toInt a1.toInt d r))) ∧ (CAC (hv J [100, 146, 150, 151, 152, 154] [(13, 47), (13, 48), (13, 56), (13, 57), (13, 58), (13, 59), (13, 60)] u))) (fun u t => at_ g A ((hv J [100, 146, 150, 151, 152, 154] [(13, 47), (13, 48), (13, 56), (13, 57), (13, 58), (13, 59), (13, 60)] u, L, I, P, E, N), sgM g) t) A) = Q9
  have hx := C.1.1
  have hb := C.1.2.1
  have hts := C.1.2.2.2.2
  have hW : WB g A s.heap s.heap [] (J, L, I, P, E, N) (sgM g) := hW
  have hl : lv_has ls 3 [(0, .ref (g.2.2.1 13)), (1, .int a0), (2, .int a1)] := hl
  obtain ⟨H, hH⟩ : ∃ H : Heap, H = s.heap := ⟨_, rfl⟩
  obtain ⟨locs, hlocs⟩ : ∃ q : List Loc, q = [] := ⟨_, rfl⟩
  have hW : WB g A s.heap H locs (J, L, I, P, E, N) (sgM g) := by rw [hH, hlocs]; exact hW
  obtain ⟨⟨hnd1, hnd2, hon, hhm1, hhm2, hhN, hcu1, hcu2, hco1, hco2, hcN⟩, ⟨hrd1, hrd2⟩, ⟨hnw1, hnw2, hns1, hns2, hof⟩, ⟨htm1, htm2, hts_⟩, ⟨had1, had2, hrw1, hrw2, htp1, htp2⟩⟩ := id hwm
  refine start_ hH hlocs ?_
  refine lv_aload_n hx hb dX12_worth__0 rfl (lv_at hl 0 rfl) ?_
  refine lv_iload_n hx hb dX12_worth__1 rfl (lv_at hl 2 rfl) ?_
  refine ci_ C hW (runV (x := (g.2.2.1 13)) (As := [.int a1]) (rest := []) (T := ((J, L, I, P, E, N), sgM g)) C hW (c_X12_isPast l g J L I P E N H.size a1 hwm) mi_X12_isPast tw_1326 (recv_ (T := ((J, L, I, P, E, N), sgM g)) C hW (mm_ rfl) rfl rfl) ⟨rfl, rfl, Nat.le_of_ble_eq_true rfl, Nat.le_of_ble_eq_true rfl⟩ rfl hl.1 rfl (Nat.le_of_ble_eq_true rfl) dX12_worth__2 ⟨Nat.le_of_ble_eq_true rfl, Nat.le_of_ble_eq_true rfl⟩) (fun r1 u1 H locs hp1 hW => ?_)
  have hc1 : ((r1.toInt = 1 ∧ (0 ≤ a1.toInt ∧ a1.toInt < (J 13 31).toInt)) ∨ (r1.toInt = 0 ∧ (¬ (0 ≤ a1.toInt ∧ a1.toInt < (J 13 31).toInt)))) := hp1
  clear hp1
  have hW : WB g A s.heap H locs (J, L, I, P, E, N) (sgM g) := hW
  refine lv_if_ne (tgt := 18) hx hb dX12_worth__5 (by decide) (fun c2 => ?_) (fun c2 => ?_)
  · have c2 : ¬ r1.toInt = 0 := tne rfl kp0 c2
    refine lv_iload_n hx hb dX12_worth__18 rfl (lv_at hl 1 rfl) ?_
    refine lv_iconst (v := 3) hx hb dX12_worth__19 (by decide) ?_
    refine ci_ C hW (runS (As := [.int a0, .int 3]) (rest := []) (T := ((J, L, I, P, E, N), sgM g)) C hW (c_X12_isIn l g J L I P E N H.size a0 3 ) mi_X12_isIn tw_1255 ⟨rfl, rfl, Nat.le_of_ble_eq_true rfl, Nat.le_of_ble_eq_true rfl⟩ rfl hl.1 rfl (Nat.le_of_ble_eq_true rfl) dX12_worth__20 ⟨Nat.le_of_ble_eq_true rfl, Nat.le_of_ble_eq_true rfl⟩) (fun r3 u3 H locs hp3 hW => ?_)
    have hc3 : ((r3.toInt = 1 ∧ (0 ≤ a0.toInt ∧ a0.toInt < 3)) ∨ (r3.toInt = 0 ∧ (¬ (0 ≤ a0.toInt ∧ a0.toInt < 3)))) := hp3
    clear hp3
    have hW : WB g A s.heap H locs (J, L, I, P, E, N) (sgM g) := hW
    refine lv_if_eq (tgt := 35) hx hb dX12_worth__23 (by decide) (fun c4 => ?_) (fun c4 => ?_)
    · have c4 : r3.toInt = 0 := teq rfl kp0 c4
      refine lv_ldcw hx hb C.1.2.2.2.1 (hts _ tw_1423) dX12_worth__35 ?_
      refine lv_aload_n hx hb dX12_worth__38 rfl (lv_at hl 0 rfl) ?_
      refine lv_bipush (v := (-2)) hx hb dX12_worth__39 (by decide) ?_
      refine ci_ C hW (runV (x := (g.2.2.1 13)) (As := [.int (-2)]) (rest := [.int 1000000000]) (T := ((J, L, I, P, E, N), sgM g)) C hW (c_X12_refuse l g J L I P E N H.size (-2) (show -6 ≤ (-2 : Int32).toInt ∧ (-2 : Int32).toInt ≤ -1 from by (try simp only [kn2]); omega)) mi_X12_refuse tw_1239 (recv_ (T := ((J, L, I, P, E, N), sgM g)) C hW (mm_ rfl) rfl rfl) ⟨rfl, rfl, Nat.le_of_ble_eq_true rfl, Nat.le_of_ble_eq_true rfl⟩ rfl hl.1 rfl (Nat.le_of_ble_eq_true rfl) dX12_worth__41 ⟨Nat.le_of_ble_eq_true rfl, Nat.le_of_ble_eq_true rfl⟩) (fun r5 u5 H locs hp5 hW => ?_)
      have hc5 : ((r5 = (-2))) := hp5
      clear hp5
      have hr5 : r5.toInt = (-2) := by rw [hc5]; exact kn2
      have hW : WB g A s.heap H locs ((hv J [100] [] u5), L, I, P, E, N) (sgM g) := hW
      refine lv_isub hx hb dX12_worth__44 ?_
      refine lv_topi (fun x6 (e6 : x6 = 1000000000 - r5) => ?_)
      try have t6 : x6.toInt = 1000000000 - r5.toInt := tsub e6 kp1000000000 rfl (by omega)
      have hWr : WB g A s.heap H locs (hv J [100, 146, 150, 151, 152, 154] [(13, 47), (13, 48), (13, 56), (13, 57), (13, 58), (13, 59), (13, 60)] (hv J [100] [] u5), L, I, P, E, N) (sgM g) := by
        rw [← ag_hvE (J := J) (R := [100, 146, 150, 151, 152, 154]) (F := [(13, 47), (13, 48), (13, 56), (13, 57), (13, 58), (13, 59), (13, 60)]) (ag_hv rfl rfl ag_rf)]
        exact hW
      subst hQ9
      exact end_i C hr hlocks (hv J [100] [] u5) hWr ⟨by first | exact Or.inl ⟨by omega, by omega⟩ | exact Or.inr (Or.inl ⟨by omega, by omega⟩) | exact Or.inr (Or.inr (⟨by first | rfl | assumption, by omega, show (∃ s o d : Int32, ((J 116 a1.toNatClampNeg).toInt = 6 → s.toInt = 0 ∧ o.toInt = 0) ∧ (¬ (J 116 a1.toNatClampNeg).toInt = 6 → CAV J a1.toNatClampNeg s.toInt o.toInt) ∧ ((¬ (a0.toInt : Int) = 2 → d.toInt = 0) ∧ ((a0.toInt : Int) = 2 → d = o)) ∧ WVM (J 121) (J 122) (J 123) (J 124) (SCL (J 116 a1.toNatClampNeg) (hrw a1.toInt) (J 118 a1.toNatClampNeg) s o (J 120 a1.toNatClampNeg) (J 13 31 - a1) (J 13 35)) (J 13 40).toInt a0.toInt a1.toInt d x6) from (by exact hWO)⟩)), show CAC (hv J [100, 146, 150, 151, 152, 154] [(13, 47), (13, 48), (13, 56), (13, 57), (13, 58), (13, 59), (13, 60)] (hv J [100] [] u5)) from by rw [← ag_hvE (J := J) (R := [100, 146, 150, 151, 152, 154]) (F := [(13, 47), (13, 48), (13, 56), (13, 57), (13, 58), (13, 59), (13, 60)]) (ag_hv rfl rfl ag_rf)]; exact cac_e (J := J) ⟨rfl, rfl, rfl, rfl, rfl, rfl, rfl, rfl, rfl, rfl, rfl, rfl, rfl, rfl, rfl, rfl, rfl, rfl, rfl, rfl⟩ rfl rfl rfl hcac⟩ dX12_worth__45
    · have c4 : ¬ r3.toInt = 0 := tne rfl kp0 c4
      refine lv_aload_n hx hb dX12_worth__26 rfl (lv_at hl 0 rfl) ?_
      refine lv_iload_n hx hb dX12_worth__27 rfl (lv_at hl 1 rfl) ?_
      refine lv_iload_n hx hb dX12_worth__28 rfl (lv_at hl 2 rfl) ?_
      refine ci_ C hW (runV (x := (g.2.2.1 13)) (As := [.int a0, .int a1]) (rest := []) (T := ((J, L, I, P, E, N), sgM g)) C hW (c_X12_worthOf_e l g J L I P E N H.size a0 a1 hwm (show 0 ≤ a1.toInt ∧ a1.toInt < (J 13 31).toInt from by omega) (show CAC J from hcac)) mi_X12_worthOf tw_1424 (recv_ (T := ((J, L, I, P, E, N), sgM g)) C hW (mm_ rfl) rfl rfl) ⟨rfl, rfl, Nat.le_of_ble_eq_true rfl, Nat.le_of_ble_eq_true rfl⟩ rfl hl.1 rfl (Nat.le_of_ble_eq_true rfl) dX12_worth__29 ⟨Nat.le_of_ble_eq_true rfl, Nat.le_of_ble_eq_true rfl⟩) (fun r7 u7 H locs hp7 hW => ?_)
      obtain ⟨hf7_0, hf7_1⟩ : (∃ s o d : Int32, ((J 116 a1.toNatClampNeg).toInt = 6 → s.toInt = 0 ∧ o.toInt = 0) ∧ (¬ (J 116 a1.toNatClampNeg).toInt = 6 → CAV J a1.toNatClampNeg s.toInt o.toInt) ∧ ((¬ (a0.toInt : Int) = 2 → d.toInt = 0) ∧ ((a0.toInt : Int) = 2 → d = o)) ∧ WVM (J 121) (J 122) (J 123) (J 124) (SCL (J 116 a1.toNatClampNeg) (hrw a1.toInt) (J 118 a1.toNatClampNeg) s o (J 120 a1.toNatClampNeg) (J 13 31 - a1) (J 13 35)) (J 13 40).toInt a0.toInt a1.toInt d r7) ∧ (CAC (hv J [146, 150, 151, 152, 154] [(13, 47), (13, 48), (13, 56), (13, 57), (13, 58), (13, 59), (13, 60)] u7)) := hp7
      have hW : WB g A s.heap H locs ((hv J [146, 150, 151, 152, 154] [(13, 47), (13, 48), (13, 56), (13, 57), (13, 58), (13, 59), (13, 60)] u7), L, I, P, E, N) (sgM g) := hW
      have hWO := hf7_0
      have hCC := hf7_1
      refine lv_goto (tgt := 45) hx hb dX12_worth__32 (by decide) ?_
      have hWr : WB g A s.heap H locs (hv J [100, 146, 150, 151, 152, 154] [(13, 47), (13, 48), (13, 56), (13, 57), (13, 58), (13, 59), (13, 60)] (hv J [146, 150, 151, 152, 154] [(13, 47), (13, 48), (13, 56), (13, 57), (13, 58), (13, 59), (13, 60)] u7), L, I, P, E, N) (sgM g) := by
        rw [← ag_hvE (J := J) (R := [100, 146, 150, 151, 152, 154]) (F := [(13, 47), (13, 48), (13, 56), (13, 57), (13, 58), (13, 59), (13, 60)]) (ag_hv rfl rfl ag_rf)]
        exact hW
      subst hQ9
      exact end_i C hr hlocks (hv J [146, 150, 151, 152, 154] [(13, 47), (13, 48), (13, 56), (13, 57), (13, 58), (13, 59), (13, 60)] u7) hWr ⟨by first | exact Or.inl ⟨by omega, by omega⟩ | exact Or.inr (Or.inl ⟨by omega, by omega⟩) | exact Or.inr (Or.inr (⟨by first | rfl | assumption, by omega, show (∃ s o d : Int32, ((J 116 a1.toNatClampNeg).toInt = 6 → s.toInt = 0 ∧ o.toInt = 0) ∧ (¬ (J 116 a1.toNatClampNeg).toInt = 6 → CAV J a1.toNatClampNeg s.toInt o.toInt) ∧ ((¬ (a0.toInt : Int) = 2 → d.toInt = 0) ∧ ((a0.toInt : Int) = 2 → d = o)) ∧ WVM (J 121) (J 122) (J 123) (J 124) (SCL (J 116 a1.toNatClampNeg) (hrw a1.toInt) (J 118 a1.toNatClampNeg) s o (J 120 a1.toNatClampNeg) (J 13 31 - a1) (J 13 35)) (J 13 40).toInt a0.toInt a1.toInt d r7) from (by exact hWO)⟩)), show CAC (hv J [100, 146, 150, 151, 152, 154] [(13, 47), (13, 48), (13, 56), (13, 57), (13, 58), (13, 59), (13, 60)] (hv J [146, 150, 151, 152, 154] [(13, 47), (13, 48), (13, 56), (13, 57), (13, 58), (13, 59), (13, 60)] u7)) from by rw [← ag_hvE (J := J) (R := [100, 146, 150, 151, 152, 154]) (F := [(13, 47), (13, 48), (13, 56), (13, 57), (13, 58), (13, 59), (13, 60)]) (ag_hv rfl rfl ag_rf)]; exact hCC⟩ dX12_worth__45
  · have c2 : r1.toInt = 0 := teq rfl kp0 c2
    refine lv_ldcw hx hb C.1.2.2.2.1 (hts _ tw_1423) dX12_worth__8 ?_
    refine lv_aload_n hx hb dX12_worth__11 rfl (lv_at hl 0 rfl) ?_
    refine lv_iconst (v := (-1)) hx hb dX12_worth__12 (by decide) ?_
    refine ci_ C hW (runV (x := (g.2.2.1 13)) (As := [.int (-1)]) (rest := [.int 1000000000]) (T := ((J, L, I, P, E, N), sgM g)) C hW (c_X12_refuse l g J L I P E N H.size (-1) (show -6 ≤ (-1 : Int32).toInt ∧ (-1 : Int32).toInt ≤ -1 from by (try simp only [kn1]); omega)) mi_X12_refuse tw_1239 (recv_ (T := ((J, L, I, P, E, N), sgM g)) C hW (mm_ rfl) rfl rfl) ⟨rfl, rfl, Nat.le_of_ble_eq_true rfl, Nat.le_of_ble_eq_true rfl⟩ rfl hl.1 rfl (Nat.le_of_ble_eq_true rfl) dX12_worth__13 ⟨Nat.le_of_ble_eq_true rfl, Nat.le_of_ble_eq_true rfl⟩) (fun r8 u8 H locs hp8 hW => ?_)
    have hc8 : ((r8 = (-1))) := hp8
    clear hp8
    have hr8 : r8.toInt = (-1) := by rw [hc8]; exact kn1
    have hW : WB g A s.heap H locs ((hv J [100] [] u8), L, I, P, E, N) (sgM g) := hW
    refine lv_isub hx hb dX12_worth__16 ?_
    refine lv_topi (fun x9 (e9 : x9 = 1000000000 - r8) => ?_)
    try have t9 : x9.toInt = 1000000000 - r8.toInt := tsub e9 kp1000000000 rfl (by omega)
    have hWr : WB g A s.heap H locs (hv J [100, 146, 150, 151, 152, 154] [(13, 47), (13, 48), (13, 56), (13, 57), (13, 58), (13, 59), (13, 60)] (hv J [100] [] u8), L, I, P, E, N) (sgM g) := by
      rw [← ag_hvE (J := J) (R := [100, 146, 150, 151, 152, 154]) (F := [(13, 47), (13, 48), (13, 56), (13, 57), (13, 58), (13, 59), (13, 60)]) (ag_hv rfl rfl ag_rf)]
      exact hW
    subst hQ9
    exact end_i C hr hlocks (hv J [100] [] u8) hWr ⟨by first | exact Or.inl ⟨by omega, by omega⟩ | exact Or.inr (Or.inl ⟨by omega, by omega⟩) | exact Or.inr (Or.inr (⟨by first | rfl | assumption, by omega, show (∃ s o d : Int32, ((J 116 a1.toNatClampNeg).toInt = 6 → s.toInt = 0 ∧ o.toInt = 0) ∧ (¬ (J 116 a1.toNatClampNeg).toInt = 6 → CAV J a1.toNatClampNeg s.toInt o.toInt) ∧ ((¬ (a0.toInt : Int) = 2 → d.toInt = 0) ∧ ((a0.toInt : Int) = 2 → d = o)) ∧ WVM (J 121) (J 122) (J 123) (J 124) (SCL (J 116 a1.toNatClampNeg) (hrw a1.toInt) (J 118 a1.toNatClampNeg) s o (J 120 a1.toNatClampNeg) (J 13 31 - a1) (J 13 35)) (J 13 40).toInt a0.toInt a1.toInt d x9) from (by exact hWO)⟩)), show CAC (hv J [100, 146, 150, 151, 152, 154] [(13, 47), (13, 48), (13, 56), (13, 57), (13, 58), (13, 59), (13, 60)] (hv J [100] [] u8)) from by rw [← ag_hvE (J := J) (R := [100, 146, 150, 151, 152, 154]) (F := [(13, 47), (13, 48), (13, 56), (13, 57), (13, 58), (13, 59), (13, 60)]) (ag_hv rfl rfl ag_rf)]; exact cac_e (J := J) ⟨rfl, rfl, rfl, rfl, rfl, rfl, rfl, rfl, rfl, rfl, rfl, rfl, rfl, rfl, rfl, rfl, rfl, rfl, rfl, rfl⟩ rfl rfl rfl hcac⟩ dX12_worth__17
