theorem dX12_sign_0 : decode cX12_sign 0 = .ok (.aload_n 0, 1) := dk_aload_n_0 (by decide +kernel)
theorem dX12_sign_1 : decode cX12_sign 1 = .ok (.getfield 257, 3) := dk_getfield (by decide +kernel)
theorem dX12_sign_4 : decode cX12_sign 4 = .ok (.aload_n 0, 1) := dk_aload_n_0 (by decide +kernel)
theorem dX12_sign_5 : decode cX12_sign 5 = .ok (.getfield 260, 3) := dk_getfield (by decide +kernel)
theorem dX12_sign_8 : decode cX12_sign 8 = .ok (.if_icmp .lt 7, 3) := dk_if_icmp_lt (by decide +kernel)
theorem dX12_sign_11 : decode cX12_sign 11 = .ok (.iconst (-1), 1) := dk_iconst_m1 (by decide +kernel)
theorem dX12_sign_12 : decode cX12_sign 12 = .ok (.goto 36, 3) := dk_goto (by decide +kernel)
theorem dX12_sign_15 : decode cX12_sign 15 = .ok (.aload_n 0, 1) := dk_aload_n_0 (by decide +kernel)
theorem dX12_sign_16 : decode cX12_sign 16 = .ok (.getfield 263, 3) := dk_getfield (by decide +kernel)
theorem dX12_sign_19 : decode cX12_sign 19 = .ok (.ifCond .ge 15, 3) := dk_ifCond_ge (by decide +kernel)
theorem dX12_sign_22 : decode cX12_sign 22 = .ok (.aload_n 0, 1) := dk_aload_n_0 (by decide +kernel)
theorem dX12_sign_23 : decode cX12_sign 23 = .ok (.getfield 132, 3) := dk_getfield (by decide +kernel)
theorem dX12_sign_26 : decode cX12_sign 26 = .ok (.aload_n 0, 1) := dk_aload_n_0 (by decide +kernel)
theorem dX12_sign_27 : decode cX12_sign 27 = .ok (.getfield 257, 3) := dk_getfield (by decide +kernel)
theorem dX12_sign_30 : decode cX12_sign 30 = .ok (.iaload, 1) := dk_iaload (by decide +kernel)
theorem dX12_sign_31 : decode cX12_sign 31 = .ok (.goto 17, 3) := dk_goto (by decide +kernel)
theorem dX12_sign_34 : decode cX12_sign 34 = .ok (.aload_n 0, 1) := dk_aload_n_0 (by decide +kernel)
theorem dX12_sign_35 : decode cX12_sign 35 = .ok (.getfield 83, 3) := dk_getfield (by decide +kernel)
theorem dX12_sign_38 : decode cX12_sign 38 = .ok (.aload_n 0, 1) := dk_aload_n_0 (by decide +kernel)
theorem dX12_sign_39 : decode cX12_sign 39 = .ok (.getfield 263, 3) := dk_getfield (by decide +kernel)
theorem dX12_sign_42 : decode cX12_sign 42 = .ok (.aload_n 0, 1) := dk_aload_n_0 (by decide +kernel)
theorem dX12_sign_43 : decode cX12_sign 43 = .ok (.getfield 257, 3) := dk_getfield (by decide +kernel)
theorem dX12_sign_46 : decode cX12_sign 46 = .ok (.iadd, 1) := dk_iadd (by decide +kernel)
theorem dX12_sign_47 : decode cX12_sign 47 = .ok (.iaload, 1) := dk_iaload (by decide +kernel)
theorem dX12_sign_48 : decode cX12_sign 48 = .ok (.ireturn, 1) := dk_ireturn (by decide +kernel)
theorem dX12_takes_0 : decode cX12_takes 0 = .ok (.aload_n 0, 1) := dk_aload_n_0 (by decide +kernel)
theorem dX12_takes_1 : decode cX12_takes 1 = .ok (.getfield 270, 3) := dk_getfield (by decide +kernel)
theorem dX12_takes_4 : decode cX12_takes 4 = .ok (.ifCond .eq 11, 3) := dk_ifCond_eq (by decide +kernel)
theorem dX12_takes_7 : decode cX12_takes 7 = .ok (.aload_n 0, 1) := dk_aload_n_0 (by decide +kernel)
theorem dX12_takes_8 : decode cX12_takes 8 = .ok (.invokevirtual 274, 3) := dk_invokevirtual (by decide +kernel)
theorem dX12_takes_11 : decode cX12_takes 11 = .ok (.iload_n 1, 1) := dk_iload_n_1 (by decide +kernel)
theorem dX12_takes_12 : decode cX12_takes 12 = .ok (.if_icmp .eq 5, 3) := dk_if_icmp_eq (by decide +kernel)
theorem dX12_takes_15 : decode cX12_takes 15 = .ok (.iconst 0, 1) := dk_iconst_0 (by decide +kernel)
theorem dX12_takes_16 : decode cX12_takes 16 = .ok (.ireturn, 1) := dk_ireturn (by decide +kernel)
theorem dX12_takes_17 : decode cX12_takes 17 = .ok (.aload_n 0, 1) := dk_aload_n_0 (by decide +kernel)
theorem dX12_takes_18 : decode cX12_takes 18 = .ok (.dup, 1) := dk_dup (by decide +kernel)
theorem dX12_takes_19 : decode cX12_takes 19 = .ok (.getfield 257, 3) := dk_getfield (by decide +kernel)
theorem dX12_takes_22 : decode cX12_takes 22 = .ok (.iconst 1, 1) := dk_iconst_1 (by decide +kernel)
theorem dX12_takes_23 : decode cX12_takes 23 = .ok (.iadd, 1) := dk_iadd (by decide +kernel)
theorem dX12_takes_24 : decode cX12_takes 24 = .ok (.putfield 257, 3) := dk_putfield (by decide +kernel)
theorem dX12_takes_27 : decode cX12_takes 27 = .ok (.iconst 1, 1) := dk_iconst_1 (by decide +kernel)
theorem dX12_takes_28 : decode cX12_takes 28 = .ok (.ireturn, 1) := dk_ireturn (by decide +kernel)
set_option maxHeartbeats 4000000 in
set_option maxRecDepth 100000 in
theorem c_X12_sign (l : Launch) (g : gG) (J : Nat → Nat → Int32) (L : Nat → Nat → Int64) (I : Nat → Nat → Nat → Int32) (P : Nat → Nat → Nat → Option Nat) (E : Nat → Option Nat) (N : Nat → Nat) (sz : Nat)  (hwm : WM J) (hat : 0 ≤ (J 13 56).toInt) (hps : ((J 13 58).toInt < 0 ∧ (J 13 59).toInt ≤ 60) ∨ (0 ≤ (J 13 58).toInt ∧ (J 13 58).toInt + (J 13 59).toInt ≤ 1800)) : Met l yX12_sign (WS yX12_sign cX12_sign 1 (some .int)) (RM (1) 0 0) (PC g [.ref (g.2.2.1 13)] ((J, L, I, P, E, N), sgM g) sz) (va_Qi (fun (r : Int32) (u : Unit) => ((r.toInt = -1 ∧ (J 13 59).toInt ≤ (J 13 56).toInt) ∨ (J 13 56).toInt < (J 13 59).toInt)) (fun u t => at_ g (FR g ((J, L, I, P, E, N), sgM g) sz) ((J, L, I, P, E, N), sgM g) t) (FR g ((J, L, I, P, E, N), sgM g) sz)) 0 0 (FR g ((J, L, I, P, E, N), sgM g) sz) := by
  refine ent (by decide +kernel) (Nat.le_of_ble_eq_true rfl) ?_
  intro p e s m below meth c ls hsz C hW hr hlocks hname hl
  generalize FR g ((J, L, I, P, E, N), sgM g) sz = A at C hW ⊢
  have hx := C.1.1
  have hb := C.1.2.1
  have hts := C.1.2.2.2.2
  have hW : WB g A s.heap s.heap [] (J, L, I, P, E, N) (sgM g) := hW
  have hl : lv_has ls 1 [(0, .ref (g.2.2.1 13))] := hl
  obtain ⟨H, hH⟩ : ∃ H : Heap, H = s.heap := ⟨_, rfl⟩
  obtain ⟨locs, hlocs⟩ : ∃ q : List Loc, q = [] := ⟨_, rfl⟩
  have hW : WB g A s.heap H locs (J, L, I, P, E, N) (sgM g) := by rw [hH, hlocs]; exact hW
  obtain ⟨⟨hnd1, hnd2, hon, hhm1, hhm2, hhN, hcu1, hcu2, hco1, hco2, hcN⟩, ⟨hrd1, hrd2⟩, ⟨hnw1, hnw2, hns1, hns2, hof⟩, ⟨htm1, htm2, hts_⟩, ⟨had1, had2, hrw1, hrw2, htp1, htp2⟩⟩ := id hwm
  refine start_ hH hlocs ?_
  refine lv_aload_n hx hb dX12_sign_0 rfl (lv_at hl 0 rfl) ?_
  refine rg_13_56 C hW (mm_ rfl) tw_1079 dX12_sign_1 ?_
  refine lv_aload_n hx hb dX12_sign_4 rfl (lv_at hl 0 rfl) ?_
  refine rg_13_59 C hW (mm_ rfl) tw_1082 dX12_sign_5 ?_
  refine lv_icmp_lt (tgt := 15) hx hb dX12_sign_8 (by decide) (fun c1 => ?_) (fun c1 => ?_)
  · have c1 : (J 13 56).toInt < (J 13 59).toInt := tlt rfl rfl c1
    refine lv_aload_n hx hb dX12_sign_15 rfl (lv_at hl 0 rfl) ?_
    refine rg_13_58 C hW (mm_ rfl) tw_1081 dX12_sign_16 ?_
    refine lv_if_ge (tgt := 34) hx hb dX12_sign_19 (by decide) (fun c2 => ?_) (fun c2 => ?_)
    · have c2 : 0 ≤ (J 13 58).toInt := tle kp0 rfl c2
      refine lv_aload_n hx hb dX12_sign_34 rfl (lv_at hl 0 rfl) ?_
      refine rg_13_24 C hW (mm_ rfl) tw_1047 dX12_sign_35 ?_
      refine lv_aload_n hx hb dX12_sign_38 rfl (lv_at hl 0 rfl) ?_
      refine rg_13_58 C hW (mm_ rfl) tw_1081 dX12_sign_39 ?_
      refine lv_aload_n hx hb dX12_sign_42 rfl (lv_at hl 0 rfl) ?_
      refine rg_13_56 C hW (mm_ rfl) tw_1079 dX12_sign_43 ?_
      refine lv_iadd hx hb dX12_sign_46 ?_
      refine lv_topi (fun x3 (e3 : x3 = (J 13 58) + (J 13 56)) => ?_)
      try have t3 : x3.toInt = (J 13 58).toInt + (J 13 56).toInt := tadd e3 rfl rfl (by omega)
      have hin : vp_in x3 1800 := tin rfl (by omega)
      refine ra_124 C hW (mm_ rfl) hin dX12_sign_47 ?_
      refine lv_topi (fun x4 (e4 : x4 = J 124 x3.toNatClampNeg) => ?_)
      exact end_i C hr hlocks () hW (show (x4.toInt = -1 ∧ (J 13 59).toInt ≤ (J 13 56).toInt) ∨ (J 13 56).toInt < (J 13 59).toInt from by omega) dX12_sign_48
    · have c2 : (J 13 58).toInt < 0 := tnle kp0 rfl c2
      refine lv_aload_n hx hb dX12_sign_22 rfl (lv_at hl 0 rfl) ?_
      refine rg_13_53 C hW (mm_ rfl) tw_1076 dX12_sign_23 ?_
      refine lv_aload_n hx hb dX12_sign_26 rfl (lv_at hl 0 rfl) ?_
      refine rg_13_56 C hW (mm_ rfl) tw_1079 dX12_sign_27 ?_
      have hin : vp_in (J 13 56) 60 := tin rfl (by omega)
      refine ra_153 C hW (mm_ rfl) hin dX12_sign_30 ?_
      refine lv_topi (fun x5 (e5 : x5 = J 153 ((J 13 56).toNatClampNeg)) => ?_)
      refine lv_goto (tgt := 48) hx hb dX12_sign_31 (by decide) ?_
      exact end_i C hr hlocks () hW (show (x5.toInt = -1 ∧ (J 13 59).toInt ≤ (J 13 56).toInt) ∨ (J 13 56).toInt < (J 13 59).toInt from by omega) dX12_sign_48
  · have c1 : (J 13 59).toInt ≤ (J 13 56).toInt := tnlt rfl rfl c1
    refine lv_iconst (v := (-1)) hx hb dX12_sign_11 (by decide) ?_
    refine lv_goto (tgt := 48) hx hb dX12_sign_12 (by decide) ?_
    exact end_i C hr hlocks () hW (show ((-1) = -1 ∧ (J 13 59).toInt ≤ (J 13 56).toInt) ∨ (J 13 56).toInt < (J 13 59).toInt from by omega) dX12_sign_48

set_option maxHeartbeats 4000000 in
set_option maxRecDepth 100000 in
theorem c_X12_takes (l : Launch) (g : gG) (J : Nat → Nat → Int32) (L : Nat → Nat → Int64) (I : Nat → Nat → Nat → Int32) (P : Nat → Nat → Nat → Option Nat) (E : Nat → Option Nat) (N : Nat → Nat) (sz : Nat) (a0 : Int32) (hwm : WM J) (hat : 0 ≤ (J 13 56).toInt) (hps : ((J 13 58).toInt < 0 ∧ (J 13 59).toInt ≤ 60) ∨ (0 ≤ (J 13 58).toInt ∧ (J 13 58).toInt + (J 13 59).toInt ≤ 1800)) (hc0 : 0 ≤ a0.toInt) : Met l yX12_takes (WS yX12_takes cX12_takes 2 (some .boolean)) (RM (2) 0 0) (PC g [.ref (g.2.2.1 13), .int a0] ((J, L, I, P, E, N), sgM g) sz) (va_Qi (fun (r : Int32) (u : (Nat → Nat → Int32)) => ((r.toInt = 1 ∧ (¬ (J 13 60).toInt = 0)) ∨ (r.toInt = 0)) ∧ ((J 13 56).toInt ≤ (u 13 56).toInt)) (fun u t => at_ g (FR g ((J, L, I, P, E, N), sgM g) sz) ((hv J [] [(13, 56)] u, L, I, P, E, N), sgM g) t) (FR g ((J, L, I, P, E, N), sgM g) sz)) 0 0 (FR g ((J, L, I, P, E, N), sgM g) sz) := by
  refine ent (by decide +kernel) (Nat.le_of_ble_eq_true rfl) ?_
  intro p e s m below meth c ls hsz C hW hr hlocks hname hl
  generalize FR g ((J, L, I, P, E, N), sgM g) sz = A at C hW ⊢
  have hx := C.1.1
  have hb := C.1.2.1
  have hts := C.1.2.2.2.2
  have hW : WB g A s.heap s.heap [] (J, L, I, P, E, N) (sgM g) := hW
  have hl : lv_has ls 2 [(0, .ref (g.2.2.1 13)), (1, .int a0)] := hl
  obtain ⟨H, hH⟩ : ∃ H : Heap, H = s.heap := ⟨_, rfl⟩
  obtain ⟨locs, hlocs⟩ : ∃ q : List Loc, q = [] := ⟨_, rfl⟩
  have hW : WB g A s.heap H locs (J, L, I, P, E, N) (sgM g) := by rw [hH, hlocs]; exact hW
  obtain ⟨⟨hnd1, hnd2, hon, hhm1, hhm2, hhN, hcu1, hcu2, hco1, hco2, hcN⟩, ⟨hrd1, hrd2⟩, ⟨hnw1, hnw2, hns1, hns2, hof⟩, ⟨htm1, htm2, hts_⟩, ⟨had1, had2, hrw1, hrw2, htp1, htp2⟩⟩ := id hwm
  refine start_ hH hlocs ?_
  refine lv_aload_n hx hb dX12_takes_0 rfl (lv_at hl 0 rfl) ?_
  refine rg_13_60 C hW (mm_ rfl) tw_1083 dX12_takes_1 ?_
  refine lv_if_eq (tgt := 15) hx hb dX12_takes_4 (by decide) (fun c1 => ?_) (fun c1 => ?_)
  · have c1 : (J 13 60).toInt = 0 := teq rfl kp0 c1
    refine lv_iconst (v := 0) hx hb dX12_takes_15 (by decide) ?_
    have hWr : WB g A s.heap H locs (hv J [] [(13, 56)] J, L, I, P, E, N) (sgM g) := by
      rw [← ag_hvE (J := J) (R := []) (F := [(13, 56)]) ag_rf]
      exact hW
    exact end_z C hr hlocks (by decide) J hWr ⟨by first | exact Or.inr ((by decide)), show (J 13 56).toInt ≤ (J 13 56).toInt from by omega⟩ dX12_takes_16
  · have c1 : ¬ (J 13 60).toInt = 0 := tne rfl kp0 c1
    refine lv_aload_n hx hb dX12_takes_7 rfl (lv_at hl 0 rfl) ?_
    refine ci_ C hW (runV (x := (g.2.2.1 13)) (As := []) (rest := []) (T := ((J, L, I, P, E, N), sgM g)) C hW (c_X12_sign l g J L I P E N H.size  hwm (show 0 ≤ (J 13 56).toInt from by omega) (show ((J 13 58).toInt < 0 ∧ (J 13 59).toInt ≤ 60) ∨ (0 ≤ (J 13 58).toInt ∧ (J 13 58).toInt + (J 13 59).toInt ≤ 1800) from by omega)) mi_X12_sign tw_1358 (recv_ (T := ((J, L, I, P, E, N), sgM g)) C hW (mm_ rfl) rfl rfl) ⟨rfl, rfl, Nat.le_of_ble_eq_true rfl, Nat.le_of_ble_eq_true rfl⟩ rfl hl.1 rfl (Nat.le_of_ble_eq_true rfl) dX12_takes_8 ⟨Nat.le_of_ble_eq_true rfl, Nat.le_of_ble_eq_true rfl⟩) (fun r2 u2 H locs hp2 hW => ?_)
    have hf2_0 : ((r2.toInt = -1 ∧ (J 13 59).toInt ≤ (J 13 56).toInt) ∨ (J 13 56).toInt < (J 13 59).toInt) := hp2
    clear hp2
    have hW : WB g A s.heap H locs (J, L, I, P, E, N) (sgM g) := hW
    refine lv_iload_n hx hb dX12_takes_11 rfl (lv_at hl 1 rfl) ?_
    refine lv_icmp_eq (tgt := 17) hx hb dX12_takes_12 (by decide) (fun c3 => ?_) (fun c3 => ?_)
    · have c3 : r2.toInt = a0.toInt := teq rfl rfl c3
      refine lv_aload_n hx hb dX12_takes_17 rfl (lv_at hl 0 rfl) ?_
      refine lv_dup hx hb dX12_takes_18 rfl ?_
      refine rg_13_56 C hW (mm_ rfl) tw_1079 dX12_takes_19 ?_
      refine lv_iconst (v := 1) hx hb dX12_takes_22 (by decide) ?_
      refine lv_iadd hx hb dX12_takes_23 ?_
      refine lv_topi (fun x4 (e4 : x4 = (J 13 56) + 1) => ?_)
      try have t4 : x4.toInt = (J 13 56).toInt + 1 := tadd e4 rfl kp1 (by omega)
      refine rp_13_56 C hW (mm_ rfl) tw_1079 dX12_takes_24 (fun H locs hW => ?_)
      refine lv_iconst (v := 1) hx hb dX12_takes_27 (by decide) ?_
      have hWr : WB g A s.heap H locs (hv J [] [(13, 56)] (up2 J 13 56 x4), L, I, P, E, N) (sgM g) := by
        rw [← ag_hvE (J := J) (R := []) (F := [(13, 56)]) (ag_up (Or.inr rfl) ag_rf)]
        exact hW
      exact end_z C hr hlocks (by decide) (up2 J 13 56 x4) hWr ⟨by first | exact Or.inl ⟨by decide, by omega⟩, show (J 13 56).toInt ≤ (x4).toInt from by omega⟩ dX12_takes_28
    · have c3 : ¬ r2.toInt = a0.toInt := tne rfl rfl c3
      refine lv_iconst (v := 0) hx hb dX12_takes_15 (by decide) ?_
      have hWr : WB g A s.heap H locs (hv J [] [(13, 56)] J, L, I, P, E, N) (sgM g) := by
        rw [← ag_hvE (J := J) (R := []) (F := [(13, 56)]) ag_rf]
        exact hW
      exact end_z C hr hlocks (by decide) J hWr ⟨by first | exact Or.inr ((by decide)), show (J 13 56).toInt ≤ (J 13 56).toInt from by omega⟩ dX12_takes_16
