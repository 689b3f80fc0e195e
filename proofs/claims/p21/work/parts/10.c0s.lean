theorem hwv_ls {kd su ma : Int32} {m a b r : Int} (h : ¬ kd.toInt = 6) (h1 : a ≤ b) (hL : (r = 2 ∧ (kd.toInt = 2 ∨ BT su m = true)) ∨ (¬ kd.toInt = 2 ∧ ¬ BT su m = true ∧ ((r = 1 ∧ BT ma m = true) ∨ (r = 0 ∧ ¬ BT ma m = true)))) : r = HWV kd su ma m a b := by
  rcases hL with ⟨q1, q2⟩ | ⟨q1, q2, ⟨q3, q4⟩ | ⟨q3, q4⟩⟩
  · exact hwv_2 h h1 q2 q1
  · exact hwv_1 h h1 q1 q2 q4 q3
  · exact hwv_n h h1 q1 q2 q4 q3
set_option maxHeartbeats 4000000 in
set_option maxRecDepth 100000 in
theorem c_X12_listens_e (l : Launch) (g : gG) (J : Nat → Nat → Int32) (L : Nat → Nat → Int64) (I : Nat → Nat → Nat → Int32) (P : Nat → Nat → Nat → Option Nat) (E : Nat → Option Nat) (N : Nat → Nat) (sz : Nat) (a0 : Int32) (a1 : Int32) (hwm : WM J) (hh : 0 ≤ a0.toInt ∧ a0.toInt < 40) (hm : 0 ≤ a1.toInt ∧ a1.toInt < 10000) : Met l yX12_listens (WS yX12_listens cX12_listens 4 (some .int)) (RM (1) 0 0) (PC g [.ref (g.2.2.1 13), .int a0, .int a1] ((J, L, I, P, E, N), sgM g) sz) (va_Qi (fun (r : Int32) (u : Unit) => (((r.toInt : Int) = 2 ∧ ((J 116 a1.toNatClampNeg).toInt = 2 ∨ BT (J 110 a0.toNatClampNeg) a1.toInt = true)) ∨ (¬ (J 116 a1.toNatClampNeg).toInt = 2 ∧ ¬ BT (J 110 a0.toNatClampNeg) a1.toInt = true ∧ (((r.toInt : Int) = 1 ∧ BT (J 111 a0.toNatClampNeg) a1.toInt = true) ∨ ((r.toInt : Int) = 0 ∧ ¬ BT (J 111 a0.toNatClampNeg) a1.toInt = true))))) (fun u t => at_ g (FR g ((J, L, I, P, E, N), sgM g) sz) ((J, L, I, P, E, N), sgM g) t) (FR g ((J, L, I, P, E, N), sgM g) sz)) 0 0 (FR g ((J, L, I, P, E, N), sgM g) sz) := by
  refine ent (by decide +kernel) (Nat.le_of_ble_eq_true rfl) ?_
  intro p e s m below meth c ls hsz C hW hr hlocks hname hl
  generalize FR g ((J, L, I, P, E, N), sgM g) sz = A at C hW ⊢
  generalize hQ9 : (va_Qi (fun (r : Int32) (u : Unit) => (((r.toInt : Int) = 2 ∧ ((J 116 a1.toNatClampNeg).toInt = 2 ∨ BT (J 110 a0.toNatClampNeg) a1.toInt = true)) ∨ (¬ (J 116 a1.toNatClampNeg).toInt = 2 ∧ ¬ BT (J 110 a0.toNatClampNeg) a1.toInt = true ∧ (((r.toInt : Int) = 1 ∧ BT (J 111 a0.toNatClampNeg) a1.toInt = true) ∨ ((r.toInt : Int) = 0 ∧ ¬ BT (J 111 a0.toNatClampNeg) a1.toInt = true))))) (fun u t => at_ g A ((J, L, I, P, E, N), sgM g) t) A) = Q9
  have hx := C.1.1
  have hb := C.1.2.1
  have hts := C.1.2.2.2.2
  have hW : WB g A s.heap s.heap [] (J, L, I, P, E, N) (sgM g) := hW
  have hl : lv_has ls 4 [(0, .ref (g.2.2.1 13)), (1, .int a0), (2, .int a1)] := hl
  obtain ⟨H, hH⟩ : ∃ H : Heap, H = s.heap := ⟨_, rfl⟩
  obtain ⟨locs, hlocs⟩ : ∃ q : List Loc, q = [] := ⟨_, rfl⟩
  have hW : WB g A s.heap H locs (J, L, I, P, E, N) (sgM g) := by rw [hH, hlocs]; exact hW
  obtain ⟨⟨hnd1, hnd2, hon, hhm1, hhm2, hhN, hcu1, hcu2, hco1, hco2, hcN⟩, ⟨hrd1, hrd2⟩, ⟨hnw1, hnw2, hns1, hns2, hof⟩, ⟨htm1, htm2, hts_⟩, ⟨had1, had2, hrw1, hrw2, htp1, htp2⟩⟩ := id hwm
  refine start_ hH hlocs ?_
  refine lv_iload_n hx hb dX12_listens_0 rfl (lv_at hl 2 rfl) ?_
  refine lv_bipush (v := 60) hx hb dX12_listens_1 (by decide) ?_
  refine lv_idiv hx hb dX12_listens_3 (by decide) ?_
  refine lv_topi (fun x1 (e1 : x1 = a1 / 60) => ?_)
  have t1 : x1.toInt = a1.toInt.tdiv 60 := tdiv e1 rfl kp60 (by decide)
  try rw [tdp (a := a1.toInt) (by omega)] at t1
  refine lv_bipush (v := 24) hx hb dX12_listens_4 (by decide) ?_
  refine lv_irem hx hb dX12_listens_6 (by decide) ?_
  refine lv_topi (fun x2 (e2 : x2 = x1 - x1 / 24 * 24) => ?_)
  have t2 : x2.toInt = x1.toInt.tmod 24 := tmod e2 rfl kp24 (by decide) (by decide)
  try rw [tmp (a := x1.toInt) (by omega)] at t2
  refine lv_istore_n (lv' := [(3, .int x2), (0, .ref (g.2.2.1 13)), (1, .int a0), (2, .int a1)]) hx hb dX12_listens_7 rfl hl (by decide) rfl (fun ls hl => ?_)
  refine lv_aload_n hx hb dX12_listens_8 rfl (lv_at hl 1 rfl) ?_
  refine rg_13_16 C hW (mm_ rfl) tw_1039 dX12_listens_9 ?_
  refine lv_iload_n hx hb dX12_listens_12 rfl (lv_at hl 3 rfl) ?_
  have hin : vp_in a1 10000 := tin rfl (by omega)
  refine ra_116 C hW (mm_ rfl) hin dX12_listens_13 ?_
  refine lv_topi (fun x3 (e3 : x3 = J 116 a1.toNatClampNeg) => ?_)
  have t3 : x3.toInt = (J 116 a1.toNatClampNeg).toInt := by rw [e3]
  refine lv_iconst (v := 2) hx hb dX12_listens_14 (by decide) ?_
  refine lv_icmp_eq (tgt := 32) hx hb dX12_listens_15 (by decide) (fun c4 => ?_) (fun c4 => ?_)
  · have c4 : x3.toInt = 2 := teq rfl kp2 c4
    refine lv_iconst (v := 2) hx hb dX12_listens_32 (by decide) ?_
    refine lv_goto (tgt := 46) hx hb dX12_listens_33 (by decide) ?_
    subst hQ9
    exact end_i C hr hlocks () hW (show ((2 : Int) = 2 ∧ ((J 116 a1.toNatClampNeg).toInt = 2 ∨ BT (J 110 a0.toNatClampNeg) a1.toInt = true)) ∨ (¬ (J 116 a1.toNatClampNeg).toInt = 2 ∧ ¬ BT (J 110 a0.toNatClampNeg) a1.toInt = true ∧ (((2 : Int) = 1 ∧ BT (J 111 a0.toNatClampNeg) a1.toInt = true) ∨ ((2 : Int) = 0 ∧ ¬ BT (J 111 a0.toNatClampNeg) a1.toInt = true))) from by first | exact Or.inl ⟨rfl, Or.inl (by omega)⟩ | exact Or.inl ⟨rfl, Or.inr (hb0.elim (fun q => q.2) (fun q => absurd q.1 (by omega)))⟩) dX12_listens_46
  · have c4 : ¬ x3.toInt = 2 := tne rfl kp2 c4
    refine lv_aload_n hx hb dX12_listens_18 rfl (lv_at hl 1 rfl) ?_
    refine rg_13_10 C hW (mm_ rfl) tw_1033 dX12_listens_19 ?_
    refine lv_iload_n hx hb dX12_listens_22 rfl (lv_at hl 2 rfl) ?_
    have hin : vp_in a0 40 := tin rfl (by omega)
    refine ra_110 C hW (mm_ rfl) hin dX12_listens_23 ?_
    refine lv_topi (fun x5 (e5 : x5 = J 110 a0.toNatClampNeg) => ?_)
    refine lv_iload_n hx hb dX12_listens_24 rfl (lv_at hl 0 rfl) ?_
    refine lv_ishr hx hb dX12_listens_25 ?_
    refine lv_topi (fun x6 (e6 : x6 = x5 >>> (x2 &&& 31)) => ?_)
    refine lv_iconst (v := 1) hx hb dX12_listens_26 (by decide) ?_
    refine lv_iand hx hb dX12_listens_27 ?_
    refine lv_topi (fun x7 (e7 : x7 = x6 &&& 1) => ?_)
    refine lv_iconst (v := 1) hx hb dX12_listens_28 (by decide) ?_
    refine lv_icmp_ne (tgt := 36) hx hb dX12_listens_29 (by decide) (fun c8 => ?_) (fun c8 => ?_)
    · have c8 : ¬ x7.toInt = 1 := tne rfl kp1 c8
      refine lv_aload_n hx hb dX12_listens_36 rfl (lv_at hl 1 rfl) ?_
      refine rg_13_11 C hW (mm_ rfl) tw_1034 dX12_listens_37 ?_
      refine lv_iload_n hx hb dX12_listens_40 rfl (lv_at hl 2 rfl) ?_
      have hin : vp_in a0 40 := tin rfl (by omega)
      refine ra_111 C hW (mm_ rfl) hin dX12_listens_41 ?_
      refine lv_topi (fun x9 (e9 : x9 = J 111 a0.toNatClampNeg) => ?_)
      refine lv_iload_n hx hb dX12_listens_42 rfl (lv_at hl 0 rfl) ?_
      refine lv_ishr hx hb dX12_listens_43 ?_
      refine lv_topi (fun x10 (e10 : x10 = x9 >>> (x2 &&& 31)) => ?_)
      refine lv_iconst (v := 1) hx hb dX12_listens_44 (by decide) ?_
      refine lv_iand hx hb dX12_listens_45 ?_
      refine lv_topi (fun x11 (e11 : x11 = x10 &&& 1) => ?_)
      subst hQ9
      exact end_i C hr hlocks () hW (show ((x11.toInt : Int) = 2 ∧ ((J 116 a1.toNatClampNeg).toInt = 2 ∨ BT (J 110 a0.toNatClampNeg) a1.toInt = true)) ∨ (¬ (J 116 a1.toNatClampNeg).toInt = 2 ∧ ¬ BT (J 110 a0.toNatClampNeg) a1.toInt = true ∧ (((x11.toInt : Int) = 1 ∧ BT (J 111 a0.toNatClampNeg) a1.toInt = true) ∨ ((x11.toInt : Int) = 0 ∧ ¬ BT (J 111 a0.toNatClampNeg) a1.toInt = true))) from by have hb0 := bt_m (m := a1.toInt) (by omega) (by omega) (by omega) e6 e7; rw [e5] at hb0; have hb1 := bt_m (m := a1.toInt) (by omega) (by omega) (by omega) e10 e11; rw [e9] at hb1; exact Or.inr ⟨by omega, hb0.elim (fun q => absurd q.1 (by omega)) (fun q => q.2), hb1⟩) dX12_listens_46
    · have c8 : x7.toInt = 1 := teq rfl kp1 c8
      refine lv_iconst (v := 2) hx hb dX12_listens_32 (by decide) ?_
      refine lv_goto (tgt := 46) hx hb dX12_listens_33 (by decide) ?_
      subst hQ9
      exact end_i C hr hlocks () hW (show ((2 : Int) = 2 ∧ ((J 116 a1.toNatClampNeg).toInt = 2 ∨ BT (J 110 a0.toNatClampNeg) a1.toInt = true)) ∨ (¬ (J 116 a1.toNatClampNeg).toInt = 2 ∧ ¬ BT (J 110 a0.toNatClampNeg) a1.toInt = true ∧ (((2 : Int) = 1 ∧ BT (J 111 a0.toNatClampNeg) a1.toInt = true) ∨ ((2 : Int) = 0 ∧ ¬ BT (J 111 a0.toNatClampNeg) a1.toInt = true))) from by have hb0 := bt_m (m := a1.toInt) (by omega) (by omega) (by omega) e6 e7; rw [e5] at hb0; first | exact Or.inl ⟨rfl, Or.inl (by omega)⟩ | exact Or.inl ⟨rfl, Or.inr (hb0.elim (fun q => q.2) (fun q => absurd q.1 (by omega)))⟩) dX12_listens_46

set_option maxHeartbeats 4000000 in
set_option maxRecDepth 100000 in
theorem c_X12_heardBy_e (l : Launch) (g : gG) (J : Nat → Nat → Int32) (L : Nat → Nat → Int64) (I : Nat → Nat → Nat → Int32) (P : Nat → Nat → Nat → Option Nat) (E : Nat → Option Nat) (N : Nat → Nat) (sz : Nat) (a0 : Int32) (a1 : Int32) (hwm : WM J) (hm : 0 ≤ a0.toInt ∧ a0.toInt < 10000) (hh : 0 ≤ a1.toInt ∧ a1.toInt < (J 13 35).toInt) : Met l yX12_heardBy (WS yX12_heardBy cX12_heardBy 3 (some .int)) (RM (4) 0 0) (PC g [.ref (g.2.2.1 13), .int a0, .int a1] ((J, L, I, P, E, N), sgM g) sz) (va_Qi (fun (r : Int32) (u : (Nat → Nat → Int32)) => ((J 116 a0.toNatClampNeg).toInt = 6 → r.toInt = 0) ∧ (HIDE (¬ (J 116 a0.toNatClampNeg).toInt = 6 → ∃ x : Nat → Int32, SND x (J 101) (J 102) (J 103) (J 104) (fun k => 0 ≤ a0.toInt ∧ CUTP (J 105) (J 106) (J 107) (J 13 34).toInt a0.toInt k) (J 118 a0.toNatClampNeg) (J 120 a0.toNatClampNeg) (J 13 32).toInt ∧ (r.toInt : Int) = HWV (J 116 a0.toNatClampNeg) (J 110 a1.toNatClampNeg) (J 111 a1.toNatClampNeg) a0.toInt (J 13 36).toInt (x (J 108 a1.toNatClampNeg).toNatClampNeg / J 109 a1.toNatClampNeg).toInt))) (fun u t => at_ g (FR g ((J, L, I, P, E, N), sgM g) sz) ((hv J [146] [] u, L, I, P, E, N), sgM g) t) (FR g ((J, L, I, P, E, N), sgM g) sz)) 0 0 (FR g ((J, L, I, P, E, N), sgM g) sz) := by
  refine ent (by decide +kernel) (Nat.le_of_ble_eq_true rfl) ?_
  intro p e s m below meth c ls hsz C hW hr hlocks hname hl
  generalize FR g ((J, L, I, P, E, N), sgM g) sz = A at C hW ⊢
  generalize hQ9 : (va_Qi (fun (r : Int32) (u : (Nat → Nat → Int32)) => ((J 116 a0.toNatClampNeg).toInt = 6 → r.toInt = 0) ∧ (HIDE (¬ (J 116 a0.toNatClampNeg).toInt = 6 → ∃ x : Nat → Int32, SND x (J 101) (J 102) (J 103) (J 104) (fun k => 0 ≤ a0.toInt ∧ CUTP (J 105) (J 106) (J 107) (J 13 34).toInt a0.toInt k) (J 118 a0.toNatClampNeg) (J 120 a0.toNatClampNeg) (J 13 32).toInt ∧ (r.toInt : Int) = HWV (J 116 a0.toNatClampNeg) (J 110 a1.toNatClampNeg) (J 111 a1.toNatClampNeg) a0.toInt (J 13 36).toInt (x (J 108 a1.toNatClampNeg).toNatClampNeg / J 109 a1.toNatClampNeg).toInt))) (fun u t => at_ g A ((hv J [146] [] u, L, I, P, E, N), sgM g) t) A) = Q9
  have hx := C.1.1
  have hb := C.1.2.1
  have hts := C.1.2.2.2.2
  have hW : WB g A s.heap s.heap [] (J, L, I, P, E, N) (sgM g) := hW
  have hl : lv_has ls 3 [(0, .ref (g.2.2.1 13)), (1, .int a0), (2, .int a1)] := hl
  obtain ⟨H, hH⟩ : ∃ H : Heap, H = s.heap := ⟨_, rfl⟩
  obtain ⟨locs, hlocs⟩ : ∃ q : List Loc, q = [] := ⟨_, rfl⟩
  have hW : WB g A s.heap H locs (J, L, I, P, E, N) (sgM g) := by rw [hH, hlocs]; exact hW
  obtain ⟨⟨hnd1, hnd2, hon, hhm1, hhm2, hhN, hcu1, hcu2, hco1, hco2, hcN⟩, ⟨hrd1, hrd2⟩, ⟨hnw1, hnw2, hns1, hns2, hof⟩, ⟨htm1, htm2, hts_⟩, ⟨had1, had2, hrw1, hrw2, htp1, htp2⟩⟩ := id hwm
  refine start_ hH hlocs ?_
  refine lv_aload_n hx hb dX12_heardBy_0 rfl (lv_at hl 0 rfl) ?_
  refine rg_13_16 C hW (mm_ rfl) tw_1039 dX12_heardBy_1 ?_
  refine lv_iload_n hx hb dX12_heardBy_4 rfl (lv_at hl 1 rfl) ?_
  have hin : vp_in a0 10000 := tin rfl (by omega)
  refine ra_116 C hW (mm_ rfl) hin dX12_heardBy_5 ?_
  refine lv_topi (fun x1 (e1 : x1 = J 116 a0.toNatClampNeg) => ?_)
  have t1 : x1.toInt = (J 116 a0.toNatClampNeg).toInt := by rw [e1]
  refine lv_bipush (v := 6) hx hb dX12_heardBy_6 (by decide) ?_
  refine lv_icmp_ne (tgt := 13) hx hb dX12_heardBy_8 (by decide) (fun c2 => ?_) (fun c2 => ?_)
  · have c2 : ¬ x1.toInt = 6 := tne rfl kp6 c2
    refine lv_aload_n hx hb dX12_heardBy_13 rfl (lv_at hl 0 rfl) ?_
    refine lv_aload_n hx hb dX12_heardBy_14 rfl (lv_at hl 0 rfl) ?_
    refine rg_13_18 C hW (mm_ rfl) tw_1041 dX12_heardBy_15 ?_
    refine lv_iload_n hx hb dX12_heardBy_18 rfl (lv_at hl 1 rfl) ?_
    have hin : vp_in a0 10000 := tin rfl (by omega)
    refine ra_118 C hW (mm_ rfl) hin dX12_heardBy_19 ?_
    refine lv_topi (fun x3 (e3 : x3 = J 118 a0.toNatClampNeg) => ?_)
    refine lv_aload_n hx hb dX12_heardBy_20 rfl (lv_at hl 0 rfl) ?_
    refine rg_13_20 C hW (mm_ rfl) tw_1043 dX12_heardBy_21 ?_
    refine lv_iload_n hx hb dX12_heardBy_24 rfl (lv_at hl 1 rfl) ?_
    have hin : vp_in a0 10000 := tin rfl (by omega)
    refine ra_120 C hW (mm_ rfl) hin dX12_heardBy_25 ?_
    refine lv_topi (fun x4 (e4 : x4 = J 120 a0.toNatClampNeg) => ?_)
    refine lv_iload_n hx hb dX12_heardBy_26 rfl (lv_at hl 1 rfl) ?_
    refine cv_ C hW (runV (x := (g.2.2.1 13)) (As := [.int x3, .int x4, .int a0]) (rest := []) (T := ((J, L, I, P, E, N), sgM g)) C hW (c_X12_sounds_e l g J L I P E N H.size x3 x4 a0 hwm) mi_X12_sounds tw_1277 (recv_ (T := ((J, L, I, P, E, N), sgM g)) C hW (mm_ rfl) rfl rfl) ⟨rfl, rfl, Nat.le_of_ble_eq_true rfl, Nat.le_of_ble_eq_true rfl⟩ rfl hl.1 rfl (Nat.le_of_ble_eq_true rfl) dX12_heardBy_27 ⟨Nat.le_of_ble_eq_true rfl, Nat.le_of_ble_eq_true rfl⟩) (fun u5 H locs hp5 hW => ?_)
    have hf5_0 : (SND (u5 146) (J 101) (J 102) (J 103) (J 104) (fun k => 0 ≤ a0.toInt ∧ CUTP (J 105) (J 106) (J 107) (J 13 34).toInt a0.toInt k) x3 x4 (J 13 32).toInt) := hp5
    clear hp5
    have hW : WB g A s.heap H locs ((hv J [146] [] u5), L, I, P, E, N) (sgM g) := hW
    have hS := hf5_0
    refine lv_aload_n hx hb dX12_heardBy_30 rfl (lv_at hl 0 rfl) ?_
    refine lv_iload_n hx hb dX12_heardBy_31 rfl (lv_at hl 2 rfl) ?_
    refine ci_ C hW (runV (x := (g.2.2.1 13)) (As := [.int a1]) (rest := []) (T := (((hv J [146] [] u5), L, I, P, E, N), sgM g)) C hW (c_X12_hearsNow_e l g (hv J [146] [] u5) L I P E N H.size a1 hwm (show 0 ≤ a1.toInt ∧ a1.toInt < (J 13 35).toInt from by omega)) mi_X12_hearsNow tw_1302 (recv_ (T := (((hv J [146] [] u5), L, I, P, E, N), sgM g)) C hW (mm_ rfl) rfl rfl) ⟨rfl, rfl, Nat.le_of_ble_eq_true rfl, Nat.le_of_ble_eq_true rfl⟩ rfl hl.1 rfl (Nat.le_of_ble_eq_true rfl) dX12_heardBy_32 ⟨Nat.le_of_ble_eq_true rfl, Nat.le_of_ble_eq_true rfl⟩) (fun r6 u6 H locs hp6 hW => ?_)
    have hf6_0 : (((r6.toInt : Int) = 1 ∧ (J 13 36).toInt ≤ (u5 146 (J 108 a1.toNatClampNeg).toNatClampNeg / J 109 a1.toNatClampNeg).toInt) ∨ ((r6.toInt : Int) = 0 ∧ (u5 146 (J 108 a1.toNatClampNeg).toNatClampNeg / J 109 a1.toNatClampNeg).toInt < (J 13 36).toInt)) := hp6
    clear hp6
    have hW : WB g A s.heap H locs ((hv J [146] [] u5), L, I, P, E, N) (sgM g) := hW
    have hB := hf6_0
    refine lv_if_eq (tgt := 47) hx hb dX12_heardBy_35 (by decide) (fun c7 => ?_) (fun c7 => ?_)
    · have c7 : r6.toInt = 0 := teq rfl kp0 c7
      refine lv_iconst (v := 0) hx hb dX12_heardBy_47 (by decide) ?_
      have hWr : WB g A s.heap H locs (hv J [146] [] (hv J [146] [] u5), L, I, P, E, N) (sgM g) := by
        rw [← ag_hvE (J := J) (R := [146]) (F := []) (ag_hv rfl rfl ag_rf)]
        exact hW
      subst hQ9
      exact end_i C hr hlocks (hv J [146] [] u5) hWr ⟨show (J 116 a0.toNatClampNeg).toInt = 6 → 0 = 0 from by first | exact fun _ => rfl | (intro h9; exfalso; omega), show HIDE (¬ (J 116 a0.toNatClampNeg).toInt = 6 → ∃ x : Nat → Int32, SND x (J 101) (J 102) (J 103) (J 104) (fun k => 0 ≤ a0.toInt ∧ CUTP (J 105) (J 106) (J 107) (J 13 34).toInt a0.toInt k) (J 118 a0.toNatClampNeg) (J 120 a0.toNatClampNeg) (J 13 32).toInt ∧ (0 : Int) = HWV (J 116 a0.toNatClampNeg) (J 110 a1.toNatClampNeg) (J 111 a1.toNatClampNeg) a0.toInt (J 13 36).toInt (x (J 108 a1.toNatClampNeg).toNatClampNeg / J 109 a1.toNatClampNeg).toInt) from by (intro h9; rw [e3, e4] at hS; exact ⟨_, hS, hwv_0 (Or.inr (hB.elim (fun q => absurd q.1 (by omega)) (fun q => q.2))) rfl⟩)⟩ dX12_heardBy_48
    · have c7 : ¬ r6.toInt = 0 := tne rfl kp0 c7
      refine lv_aload_n hx hb dX12_heardBy_38 rfl (lv_at hl 0 rfl) ?_
      refine lv_iload_n hx hb dX12_heardBy_39 rfl (lv_at hl 2 rfl) ?_
      refine lv_iload_n hx hb dX12_heardBy_40 rfl (lv_at hl 1 rfl) ?_
      refine ci_ C hW (runV (x := (g.2.2.1 13)) (As := [.int a1, .int a0]) (rest := []) (T := (((hv J [146] [] u5), L, I, P, E, N), sgM g)) C hW (c_X12_listens_e l g (hv J [146] [] u5) L I P E N H.size a1 a0 hwm (show 0 ≤ a1.toInt ∧ a1.toInt < 40 from by omega) (show 0 ≤ a0.toInt ∧ a0.toInt < 10000 from by omega)) mi_X12_listens tw_1398 (recv_ (T := (((hv J [146] [] u5), L, I, P, E, N), sgM g)) C hW (mm_ rfl) rfl rfl) ⟨rfl, rfl, Nat.le_of_ble_eq_true rfl, Nat.le_of_ble_eq_true rfl⟩ rfl hl.1 rfl (Nat.le_of_ble_eq_true rfl) dX12_heardBy_41 ⟨Nat.le_of_ble_eq_true rfl, Nat.le_of_ble_eq_true rfl⟩) (fun r8 u8 H locs hp8 hW => ?_)
      have hf8_0 : (((r8.toInt : Int) = 2 ∧ ((J 116 a0.toNatClampNeg).toInt = 2 ∨ BT (J 110 a1.toNatClampNeg) a0.toInt = true)) ∨ (¬ (J 116 a0.toNatClampNeg).toInt = 2 ∧ ¬ BT (J 110 a1.toNatClampNeg) a0.toInt = true ∧ (((r8.toInt : Int) = 1 ∧ BT (J 111 a1.toNatClampNeg) a0.toInt = true) ∨ ((r8.toInt : Int) = 0 ∧ ¬ BT (J 111 a1.toNatClampNeg) a0.toInt = true)))) := hp8
      clear hp8
      have hW : WB g A s.heap H locs ((hv J [146] [] u5), L, I, P, E, N) (sgM g) := hW
      have hL := hf8_0
      refine lv_goto (tgt := 48) hx hb dX12_heardBy_44 (by decide) ?_
      have hWr : WB g A s.heap H locs (hv J [146] [] (hv J [146] [] u5), L, I, P, E, N) (sgM g) := by
        rw [← ag_hvE (J := J) (R := [146]) (F := []) (ag_hv rfl rfl ag_rf)]
        exact hW
      subst hQ9
      exact end_i C hr hlocks (hv J [146] [] u5) hWr ⟨show (J 116 a0.toNatClampNeg).toInt = 6 → r8.toInt = 0 from by first | exact fun _ => rfl | (intro h9; exfalso; omega), show HIDE (¬ (J 116 a0.toNatClampNeg).toInt = 6 → ∃ x : Nat → Int32, SND x (J 101) (J 102) (J 103) (J 104) (fun k => 0 ≤ a0.toInt ∧ CUTP (J 105) (J 106) (J 107) (J 13 34).toInt a0.toInt k) (J 118 a0.toNatClampNeg) (J 120 a0.toNatClampNeg) (J 13 32).toInt ∧ (r8.toInt : Int) = HWV (J 116 a0.toNatClampNeg) (J 110 a1.toNatClampNeg) (J 111 a1.toNatClampNeg) a0.toInt (J 13 36).toInt (x (J 108 a1.toNatClampNeg).toNatClampNeg / J 109 a1.toNatClampNeg).toInt) from by (intro h9; rw [e3, e4] at hS; exact ⟨_, hS, hwv_ls h9 (hB.elim (fun q => q.2) (fun q => absurd q.1 (by omega))) hL⟩)⟩ dX12_heardBy_48
  · have c2 : x1.toInt = 6 := teq rfl kp6 c2
    refine lv_iconst (v := 0) hx hb dX12_heardBy_11 (by decide) ?_
    have hWr : WB g A s.heap H locs (hv J [146] [] J, L, I, P, E, N) (sgM g) := by
      rw [← ag_hvE (J := J) (R := [146]) (F := []) ag_rf]
      exact hW
    subst hQ9
    exact end_i C hr hlocks J hWr ⟨show (J 116 a0.toNatClampNeg).toInt = 6 → 0 = 0 from by first | exact fun _ => rfl | (intro h9; exfalso; omega), show HIDE (¬ (J 116 a0.toNatClampNeg).toInt = 6 → ∃ x : Nat → Int32, SND x (J 101) (J 102) (J 103) (J 104) (fun k => 0 ≤ a0.toInt ∧ CUTP (J 105) (J 106) (J 107) (J 13 34).toInt a0.toInt k) (J 118 a0.toNatClampNeg) (J 120 a0.toNatClampNeg) (J 13 32).toInt ∧ (0 : Int) = HWV (J 116 a0.toNatClampNeg) (J 110 a1.toNatClampNeg) (J 111 a1.toNatClampNeg) a0.toInt (J 13 36).toInt (x (J 108 a1.toNatClampNeg).toNatClampNeg / J 109 a1.toNatClampNeg).toInt) from by (intro h9; exfalso; omega)⟩ dX12_heardBy_12

set_option maxHeartbeats 4000000 in
set_option maxRecDepth 100000 in
theorem c_X12_heard_e (l : Launch) (g : gG) (J : Nat → Nat → Int32) (L : Nat → Nat → Int64) (I : Nat → Nat → Nat → Int32) (P : Nat → Nat → Nat → Option Nat) (E : Nat → Option Nat) (N : Nat → Nat) (sz : Nat) (a0 : Int32) (a1 : Int32) (hwm : WM J) : Met l yX12_heard (WS yX12_heard cX12_heard 3 (some .int)) (RM (5) 0 0) (PC g [.ref (g.2.2.1 13), .int a0, .int a1] ((J, L, I, P, E, N), sgM g) sz) (va_Qi (fun (r : Int32) (u : (Nat → Nat → Int32)) => ((r.toInt = (-1) ∧ (¬ ((0 ≤ a0.toInt ∧ a0.toInt < (J 13 31).toInt) ∧ 0 ≤ a1.toInt ∧ a1.toInt < (J 13 35).toInt))) ∨ (r = r ∧ ((0 ≤ a0.toInt ∧ a0.toInt < (J 13 31).toInt) ∧ 0 ≤ a1.toInt ∧ a1.toInt < (J 13 35).toInt) ∧ ((J 116 a0.toNatClampNeg).toInt = 6 → r.toInt = 0) ∧ HIDE (¬ (J 116 a0.toNatClampNeg).toInt = 6 → ∃ x : Nat → Int32, SND x (J 101) (J 102) (J 103) (J 104) (fun k => 0 ≤ a0.toInt ∧ CUTP (J 105) (J 106) (J 107) (J 13 34).toInt a0.toInt k) (J 118 a0.toNatClampNeg) (J 120 a0.toNatClampNeg) (J 13 32).toInt ∧ (r.toInt : Int) = HWV (J 116 a0.toNatClampNeg) (J 110 a1.toNatClampNeg) (J 111 a1.toNatClampNeg) a0.toInt (J 13 36).toInt (x (J 108 a1.toNatClampNeg).toNatClampNeg / J 109 a1.toNatClampNeg).toInt)))) (fun u t => at_ g (FR g ((J, L, I, P, E, N), sgM g) sz) ((hv J [100, 146] [] u, L, I, P, E, N), sgM g) t) (FR g ((J, L, I, P, E, N), sgM g) sz)) 0 0 (FR g ((J, L, I, P, E, N), sgM g) sz) := by
  refine ent (by decide +kernel) (Nat.le_of_ble_eq_true rfl) ?_
  intro p e s m below meth c ls hsz C hW hr hlocks hname hl
  generalize FR g ((J, L, I, P, E, N), sgM g) sz = A at C hW ⊢
  generalize hQ9 : (va_Qi (fun (r : Int32) (u : (Nat → Nat → Int32)) => ((r.toInt = (-1) ∧ (¬ ((0 ≤ a0.toInt ∧ a0.toInt < (J 13 31).toInt) ∧ 0 ≤ a1.toInt ∧ a1.toInt < (J 13 35).toInt))) ∨ (r = r ∧ ((0 ≤ a0.toInt ∧ a0.toInt < (J 13 31).toInt) ∧ 0 ≤ a1.toInt ∧ a1.toInt < (J 13 35).toInt) ∧ ((J 116 a0.toNatClampNeg).toInt = 6 → r.toInt = 0) ∧ HIDE (¬ (J 116 a0.toNatClampNeg).toInt = 6 → ∃ x : Nat → Int32, SND x (J 101) (J 102) (J 103) (J 104) (fun k => 0 ≤ a0.toInt ∧ CUTP (J 105) (J 106) (J 107) (J 13 34).toInt a0.toInt k) (J 118 a0.toNatClampNeg) (J 120 a0.toNatClampNeg) (J 13 32).toInt ∧ (r.toInt : Int) = HWV (J 116 a0.toNatClampNeg) (J 110 a1.toNatClampNeg) (J 111 a1.toNatClampNeg) a0.toInt (J 13 36).toInt (x (J 108 a1.toNatClampNeg).toNatClampNeg / J 109 a1.toNatClampNeg).toInt)))) (fun u t => at_ g A ((hv J [100, 146] [] u, L, I, P, E, N), sgM g) t) A) = Q9
  have hx := C.1.1
  have hb := C.1.2.1
  have hts := C.1.2.2.2.2
  have hW : WB g A s.heap s.heap [] (J, L, I, P, E, N) (sgM g) := hW
  have hl : lv_has ls 3 [(0, .ref (g.2.2.1 13)), (1, .int a0), (2, .int a1)] := hl
  obtain ⟨H, hH⟩ : ∃ H : Heap, H = s.heap := ⟨_, rfl⟩
  obtain ⟨locs, hlocs⟩ : ∃ q : List Loc, q = [] := ⟨_, rfl⟩
  have hW : WB g A s.heap H locs (J, L, I, P, E, N) (sgM g) := by rw [hH, hlocs]; exact hW
  obtain ⟨⟨hnd1, hnd2, hon, hhm1, hhm2, hhN, hcu1, hcu2, hco1, hco2, hcN⟩, ⟨hrd1, hrd2⟩, ⟨hnw1, hnw2, hns1, hns2, hof⟩, ⟨htm1, htm2, hts_⟩, ⟨had1, had2, hrw1, hrw2, htp1, htp2⟩⟩ := id hwm
  refine start_ hH hlocs ?_
  refine lv_aload_n hx hb dX12_heard_0 rfl (lv_at hl 0 rfl) ?_
  refine lv_iload_n hx hb dX12_heard_1 rfl (lv_at hl 1 rfl) ?_
  refine ci_ C hW (runV (x := (g.2.2.1 13)) (As := [.int a0]) (rest := []) (T := ((J, L, I, P, E, N), sgM g)) C hW (c_X12_isPast l g J L I P E N H.size a0 hwm) mi_X12_isPast tw_1326 (recv_ (T := ((J, L, I, P, E, N), sgM g)) C hW (mm_ rfl) rfl rfl) ⟨rfl, rfl, Nat.le_of_ble_eq_true rfl, Nat.le_of_ble_eq_true rfl⟩ rfl hl.1 rfl (Nat.le_of_ble_eq_true rfl) dX12_heard_2 ⟨Nat.le_of_ble_eq_true rfl, Nat.le_of_ble_eq_true rfl⟩) (fun r1 u1 H locs hp1 hW => ?_)
  have hc1 : ((r1.toInt = 1 ∧ (0 ≤ a0.toInt ∧ a0.toInt < (J 13 31).toInt)) ∨ (r1.toInt = 0 ∧ (¬ (0 ≤ a0.toInt ∧ a0.toInt < (J 13 31).toInt)))) := hp1
  clear hp1
  have hW : WB g A s.heap H locs (J, L, I, P, E, N) (sgM g) := hW
  refine lv_if_eq (tgt := 25) hx hb dX12_heard_5 (by decide) (fun c2 => ?_) (fun c2 => ?_)
  · have c2 : r1.toInt = 0 := teq rfl kp0 c2
    refine lv_aload_n hx hb dX12_heard_25 rfl (lv_at hl 0 rfl) ?_
    refine lv_iconst (v := (-1)) hx hb dX12_heard_26 (by decide) ?_
    refine ci_ C hW (runV (x := (g.2.2.1 13)) (As := [.int (-1)]) (rest := []) (T := ((J, L, I, P, E, N), sgM g)) C hW (c_X12_refuse l g J L I P E N H.size (-1) (show -6 ≤ (-1 : Int32).toInt ∧ (-1 : Int32).toInt ≤ -1 from by (try simp only [kn1]); omega)) mi_X12_refuse tw_1239 (recv_ (T := ((J, L, I, P, E, N), sgM g)) C hW (mm_ rfl) rfl rfl) ⟨rfl, rfl, Nat.le_of_ble_eq_true rfl, Nat.le_of_ble_eq_true rfl⟩ rfl hl.1 rfl (Nat.le_of_ble_eq_true rfl) dX12_heard_27 ⟨Nat.le_of_ble_eq_true rfl, Nat.le_of_ble_eq_true rfl⟩) (fun r3 u3 H locs hp3 hW => ?_)
    have hc3 : ((r3 = (-1))) := hp3
    clear hp3
    have hr3 : r3.toInt = (-1) := by rw [hc3]; exact kn1
    have hW : WB g A s.heap H locs ((hv J [100] [] u3), L, I, P, E, N) (sgM g) := hW
    have hWr : WB g A s.heap H locs (hv J [100, 146] [] (hv J [100] [] u3), L, I, P, E, N) (sgM g) := by
      rw [← ag_hvE (J := J) (R := [100, 146]) (F := []) (ag_hv rfl rfl ag_rf)]
      exact hW
    subst hQ9
    exact end_i C hr hlocks (hv J [100] [] u3) hWr (by first | exact Or.inl ⟨by omega, by omega⟩ | exact Or.inr (⟨by first | rfl | assumption, by omega, show ((J 116 a0.toNatClampNeg).toInt = 6 → r3.toInt = 0) from (by first | exact h60 | exact h61), show HIDE (¬ (J 116 a0.toNatClampNeg).toInt = 6 → ∃ x : Nat → Int32, SND x (J 101) (J 102) (J 103) (J 104) (fun k => 0 ≤ a0.toInt ∧ CUTP (J 105) (J 106) (J 107) (J 13 34).toInt a0.toInt k) (J 118 a0.toNatClampNeg) (J 120 a0.toNatClampNeg) (J 13 32).toInt ∧ (r3.toInt : Int) = HWV (J 116 a0.toNatClampNeg) (J 110 a1.toNatClampNeg) (J 111 a1.toNatClampNeg) a0.toInt (J 13 36).toInt (x (J 108 a1.toNatClampNeg).toNatClampNeg / J 109 a1.toNatClampNeg).toInt) from (by first | exact h60 | exact h61)⟩) | (rcases hc1 with qhc1 | qhc1 <;> first | exact Or.inl ⟨by omega, by omega⟩ | exact Or.inr (⟨by first | rfl | assumption, by omega, show ((J 116 a0.toNatClampNeg).toInt = 6 → r3.toInt = 0) from (by first | exact h60 | exact h61), show HIDE (¬ (J 116 a0.toNatClampNeg).toInt = 6 → ∃ x : Nat → Int32, SND x (J 101) (J 102) (J 103) (J 104) (fun k => 0 ≤ a0.toInt ∧ CUTP (J 105) (J 106) (J 107) (J 13 34).toInt a0.toInt k) (J 118 a0.toNatClampNeg) (J 120 a0.toNatClampNeg) (J 13 32).toInt ∧ (r3.toInt : Int) = HWV (J 116 a0.toNatClampNeg) (J 110 a1.toNatClampNeg) (J 111 a1.toNatClampNeg) a0.toInt (J 13 36).toInt (x (J 108 a1.toNatClampNeg).toNatClampNeg / J 109 a1.toNatClampNeg).toInt) from (by first | exact h60 | exact h61)⟩) | (exfalso; omega))) dX12_heard_30
  · have c2 : ¬ r1.toInt = 0 := tne rfl kp0 c2
    refine lv_aload_n hx hb dX12_heard_8 rfl (lv_at hl 0 rfl) ?_
    refine lv_iload_n hx hb dX12_heard_9 rfl (lv_at hl 2 rfl) ?_
    refine ci_ C hW (runV (x := (g.2.2.1 13)) (As := [.int a1]) (rest := []) (T := ((J, L, I, P, E, N), sgM g)) C hW (c_X12_isHome l g J L I P E N H.size a1 hwm) mi_X12_isHome tw_1298 (recv_ (T := ((J, L, I, P, E, N), sgM g)) C hW (mm_ rfl) rfl rfl) ⟨rfl, rfl, Nat.le_of_ble_eq_true rfl, Nat.le_of_ble_eq_true rfl⟩ rfl hl.1 rfl (Nat.le_of_ble_eq_true rfl) dX12_heard_10 ⟨Nat.le_of_ble_eq_true rfl, Nat.le_of_ble_eq_true rfl⟩) (fun r4 u4 H locs hp4 hW => ?_)
    have hc4 : ((r4.toInt = 1 ∧ (0 ≤ a1.toInt ∧ a1.toInt < (J 13 35).toInt)) ∨ (r4.toInt = 0 ∧ (¬ (0 ≤ a1.toInt ∧ a1.toInt < (J 13 35).toInt)))) := hp4
    clear hp4
    have hW : WB g A s.heap H locs (J, L, I, P, E, N) (sgM g) := hW
    refine lv_if_eq (tgt := 25) hx hb dX12_heard_13 (by decide) (fun c5 => ?_) (fun c5 => ?_)
    · have c5 : r4.toInt = 0 := teq rfl kp0 c5
      refine lv_aload_n hx hb dX12_heard_25 rfl (lv_at hl 0 rfl) ?_
      refine lv_iconst (v := (-1)) hx hb dX12_heard_26 (by decide) ?_
      refine ci_ C hW (runV (x := (g.2.2.1 13)) (As := [.int (-1)]) (rest := []) (T := ((J, L, I, P, E, N), sgM g)) C hW (c_X12_refuse l g J L I P E N H.size (-1) (show -6 ≤ (-1 : Int32).toInt ∧ (-1 : Int32).toInt ≤ -1 from by (try simp only [kn1]); omega)) mi_X12_refuse tw_1239 (recv_ (T := ((J, L, I, P, E, N), sgM g)) C hW (mm_ rfl) rfl rfl) ⟨rfl, rfl, Nat.le_of_ble_eq_true rfl, Nat.le_of_ble_eq_true rfl⟩ rfl hl.1 rfl (Nat.le_of_ble_eq_true rfl) dX12_heard_27 ⟨Nat.le_of_ble_eq_true rfl, Nat.le_of_ble_eq_true rfl⟩) (fun r6 u6 H locs hp6 hW => ?_)
      have hc6 : ((r6 = (-1))) := hp6
      clear hp6
      have hr6 : r6.toInt = (-1) := by rw [hc6]; exact kn1
      have hW : WB g A s.heap H locs ((hv J [100] [] u6), L, I, P, E, N) (sgM g) := hW
      have hWr : WB g A s.heap H locs (hv J [100, 146] [] (hv J [100] [] u6), L, I, P, E, N) (sgM g) := by
        rw [← ag_hvE (J := J) (R := [100, 146]) (F := []) (ag_hv rfl rfl ag_rf)]
        exact hW
      subst hQ9
      exact end_i C hr hlocks (hv J [100] [] u6) hWr (by first | exact Or.inl ⟨by omega, by omega⟩ | exact Or.inr (⟨by first | rfl | assumption, by omega, show ((J 116 a0.toNatClampNeg).toInt = 6 → r6.toInt = 0) from (by first | exact h60 | exact h61), show HIDE (¬ (J 116 a0.toNatClampNeg).toInt = 6 → ∃ x : Nat → Int32, SND x (J 101) (J 102) (J 103) (J 104) (fun k => 0 ≤ a0.toInt ∧ CUTP (J 105) (J 106) (J 107) (J 13 34).toInt a0.toInt k) (J 118 a0.toNatClampNeg) (J 120 a0.toNatClampNeg) (J 13 32).toInt ∧ (r6.toInt : Int) = HWV (J 116 a0.toNatClampNeg) (J 110 a1.toNatClampNeg) (J 111 a1.toNatClampNeg) a0.toInt (J 13 36).toInt (x (J 108 a1.toNatClampNeg).toNatClampNeg / J 109 a1.toNatClampNeg).toInt) from (by first | exact h60 | exact h61)⟩) | (rcases hc1 with qhc1 | qhc1 <;> rcases hc4 with qhc4 | qhc4 <;> first | exact Or.inl ⟨by omega, by omega⟩ | exact Or.inr (⟨by first | rfl | assumption, by omega, show ((J 116 a0.toNatClampNeg).toInt = 6 → r6.toInt = 0) from (by first | exact h60 | exact h61), show HIDE (¬ (J 116 a0.toNatClampNeg).toInt = 6 → ∃ x : Nat → Int32, SND x (J 101) (J 102) (J 103) (J 104) (fun k => 0 ≤ a0.toInt ∧ CUTP (J 105) (J 106) (J 107) (J 13 34).toInt a0.toInt k) (J 118 a0.toNatClampNeg) (J 120 a0.toNatClampNeg) (J 13 32).toInt ∧ (r6.toInt : Int) = HWV (J 116 a0.toNatClampNeg) (J 110 a1.toNatClampNeg) (J 111 a1.toNatClampNeg) a0.toInt (J 13 36).toInt (x (J 108 a1.toNatClampNeg).toNatClampNeg / J 109 a1.toNatClampNeg).toInt) from (by first | exact h60 | exact h61)⟩) | (exfalso; omega))) dX12_heard_30
    · have c5 : ¬ r4.toInt = 0 := tne rfl kp0 c5
      refine lv_aload_n hx hb dX12_heard_16 rfl (lv_at hl 0 rfl) ?_
      refine lv_iload_n hx hb dX12_heard_17 rfl (lv_at hl 1 rfl) ?_
      refine lv_iload_n hx hb dX12_heard_18 rfl (lv_at hl 2 rfl) ?_
      refine ci_ C hW (runV (x := (g.2.2.1 13)) (As := [.int a0, .int a1]) (rest := []) (T := ((J, L, I, P, E, N), sgM g)) C hW (c_X12_heardBy_e l g J L I P E N H.size a0 a1 hwm (show 0 ≤ a0.toInt ∧ a0.toInt < 10000 from by omega) (show 0 ≤ a1.toInt ∧ a1.toInt < (J 13 35).toInt from by omega)) mi_X12_heardBy tw_1406 (recv_ (T := ((J, L, I, P, E, N), sgM g)) C hW (mm_ rfl) rfl rfl) ⟨rfl, rfl, Nat.le_of_ble_eq_true rfl, Nat.le_of_ble_eq_true rfl⟩ rfl hl.1 rfl (Nat.le_of_ble_eq_true rfl) dX12_heard_19 ⟨Nat.le_of_ble_eq_true rfl, Nat.le_of_ble_eq_true rfl⟩) (fun r7 u7 H locs hp7 hW => ?_)
      obtain ⟨hf7_0, hf7_1⟩ : ((J 116 a0.toNatClampNeg).toInt = 6 → r7.toInt = 0) ∧ (HIDE (¬ (J 116 a0.toNatClampNeg).toInt = 6 → ∃ x : Nat → Int32, SND x (J 101) (J 102) (J 103) (J 104) (fun k => 0 ≤ a0.toInt ∧ CUTP (J 105) (J 106) (J 107) (J 13 34).toInt a0.toInt k) (J 118 a0.toNatClampNeg) (J 120 a0.toNatClampNeg) (J 13 32).toInt ∧ (r7.toInt : Int) = HWV (J 116 a0.toNatClampNeg) (J 110 a1.toNatClampNeg) (J 111 a1.toNatClampNeg) a0.toInt (J 13 36).toInt (x (J 108 a1.toNatClampNeg).toNatClampNeg / J 109 a1.toNatClampNeg).toInt)) := hp7
      have hW : WB g A s.heap H locs ((hv J [146] [] u7), L, I, P, E, N) (sgM g) := hW
      have h60 := hf7_0
      have h61 := hf7_1
      refine lv_goto (tgt := 30) hx hb dX12_heard_22 (by decide) ?_
      have hWr : WB g A s.heap H locs (hv J [100, 146] [] (hv J [146] [] u7), L, I, P, E, N) (sgM g) := by
        rw [← ag_hvE (J := J) (R := [100, 146]) (F := []) (ag_hv rfl rfl ag_rf)]
        exact hW
      subst hQ9
      exact end_i C hr hlocks (hv J [146] [] u7) hWr (by first | exact Or.inl ⟨by omega, by omega⟩ | exact Or.inr (⟨by first | rfl | assumption, by omega, show ((J 116 a0.toNatClampNeg).toInt = 6 → r7.toInt = 0) from (by first | exact h60 | exact h61), show HIDE (¬ (J 116 a0.toNatClampNeg).toInt = 6 → ∃ x : Nat → Int32, SND x (J 101) (J 102) (J 103) (J 104) (fun k => 0 ≤ a0.toInt ∧ CUTP (J 105) (J 106) (J 107) (J 13 34).toInt a0.toInt k) (J 118 a0.toNatClampNeg) (J 120 a0.toNatClampNeg) (J 13 32).toInt ∧ (r7.toInt : Int) = HWV (J 116 a0.toNatClampNeg) (J 110 a1.toNatClampNeg) (J 111 a1.toNatClampNeg) a0.toInt (J 13 36).toInt (x (J 108 a1.toNatClampNeg).toNatClampNeg / J 109 a1.toNatClampNeg).toInt) from (by first | exact h60 | exact h61)⟩) | (rcases hc1 with qhc1 | qhc1 <;> rcases hc4 with qhc4 | qhc4 <;> first | exact Or.inl ⟨by omega, by omega⟩ | exact Or.inr (⟨by first | rfl | assumption, by omega, show ((J 116 a0.toNatClampNeg).toInt = 6 → r7.toInt = 0) from (by first | exact h60 | exact h61), show HIDE (¬ (J 116 a0.toNatClampNeg).toInt = 6 → ∃ x : Nat → Int32, SND x (J 101) (J 102) (J 103) (J 104) (fun k => 0 ≤ a0.toInt ∧ CUTP (J 105) (J 106) (J 107) (J 13 34).toInt a0.toInt k) (J 118 a0.toNatClampNeg) (J 120 a0.toNatClampNeg) (J 13 32).toInt ∧ (r7.toInt : Int) = HWV (J 116 a0.toNatClampNeg) (J 110 a1.toNatClampNeg) (J 111 a1.toNatClampNeg) a0.toInt (J 13 36).toInt (x (J 108 a1.toNatClampNeg).toNatClampNeg / J 109 a1.toNatClampNeg).toInt) from (by first | exact h60 | exact h61)⟩) | (exfalso; omega))) dX12_heard_30
