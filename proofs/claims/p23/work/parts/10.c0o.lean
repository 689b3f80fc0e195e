set_option maxHeartbeats 4000000 in
set_option maxRecDepth 100000 in
theorem c_X12_isCut_e (l : Launch) (g : gG) (J : Nat → Nat → Int32) (L : Nat → Nat → Int64) (I : Nat → Nat → Nat → Int32) (P : Nat → Nat → Nat → Option Nat) (E : Nat → Option Nat) (N : Nat → Nat) (sz : Nat) (a0 : Int32) (a1 : Int32) (hwm : WM J) (h0 : 0 ≤ a0.toInt) : Met l yX12_isCut (WS yX12_isCut cX12_isCut 4 (some .boolean)) (RM (1) 0 0) (PC g [.ref (g.2.2.1 13), .int a0, .int a1] ((J, L, I, P, E, N), sgM g) sz) (va_Qi (fun (r : Int32) (u : Unit) => ((r.toInt = 1 ∧ CUTP (J 105) (J 106) (J 107) (J 13 34).toInt a1.toInt a0.toInt.toNat) ∨ (r.toInt = 0 ∧ ¬ CUTP (J 105) (J 106) (J 107) (J 13 34).toInt a1.toInt a0.toInt.toNat))) (fun u t => at_ g (FR g ((J, L, I, P, E, N), sgM g) sz) ((J, L, I, P, E, N), sgM g) t) (FR g ((J, L, I, P, E, N), sgM g) sz)) 0 0 (FR g ((J, L, I, P, E, N), sgM g) sz) := by
  refine ent (by decide +kernel) (Nat.le_of_ble_eq_true rfl) ?_
  intro p e s m below meth c ls hsz C hW hr hlocks hname hl
  generalize FR g ((J, L, I, P, E, N), sgM g) sz = A at C hW ⊢
  generalize hQ9 : (va_Qi (fun (r : Int32) (u : Unit) => ((r.toInt = 1 ∧ CUTP (J 105) (J 106) (J 107) (J 13 34).toInt a1.toInt a0.toInt.toNat) ∨ (r.toInt = 0 ∧ ¬ CUTP (J 105) (J 106) (J 107) (J 13 34).toInt a1.toInt a0.toInt.toNat))) (fun u t => at_ g A ((J, L, I, P, E, N), sgM g) t) A) = Q9
  have hx := C.1.1
  have hb := C.1.2.1
  have hts := C.1.2.2.2.2
  have hW : WB g A s.heap s.heap [] (J, L, I, P, E, N) (sgM g) := hW
  have hl : lv_has ls 4 [(0, .ref (g.2.2.1 13)), (1, .int a0), (2, .int a1)] := hl
  obtain ⟨H, hH⟩ : ∃ H : Heap, H = s.heap := ⟨_, rfl⟩
  obtain ⟨locs, hlocs⟩ : ∃ q : List Loc, q = [] := ⟨_, rfl⟩
  have hW : WB g A s.heap H locs (J, L, I, P, E, N) (sgM g) := by rw [hH, hlocs]; exact hW
  obtain ⟨⟨hnd1, hnd2, hon, hhm1, hhm2, hhN, hcu1, hcu2, hco1, hco2, hcN⟩, ⟨hrd1, hrd2⟩, ⟨hnw1, hnw2, hns1, hns2, hof⟩, ⟨htm1, htm2, hts_⟩, ⟨had1, had2, hrw1, hrw2, htp1, htp2⟩⟩ := id hwm
  refine start_ hH hlocs ?_
  refine lv_iconst (v := 0) hx hb dX12_isCut_0 (by decide) ?_
  refine lv_istore_n (lv' := [(3, .int 0), (0, .ref (g.2.2.1 13)), (1, .int a0), (2, .int a1)]) hx hb dX12_isCut_1 rfl hl (by decide) rfl (fun ls hl => ?_)
  have loop2 : ∀ (n : Nat) (m3 : Int32) (H : Heap) (locs : List Loc) (ls : Array Slot), (40 - m3.toInt).toNat < n → 0 ≤ m3.toInt ∧ m3.toInt ≤ (J 13 34).toInt → ¬ CUTP (J 105) (J 106) (J 107) m3.toInt a1.toInt a0.toInt.toNat → WB g A s.heap H locs (J, L, I, P, E, N) (sgM g) → lv_has ls 4 [(3, .int m3), (0, .ref (g.2.2.1 13)), (1, .int a0), (2, .int a1)] → W p l e (RM (1) 0 0) s m ([.ref (g.2.2.1 13), .int a0, .int a1] : List Value).toArray below meth c H locs 0 0 (MQ below Q9 ([.ref (g.2.2.1 13), .int a0, .int a1] : List Value).toArray s 0 0 A) (F0 m 2 ls []) := by
    intro n
    induction n with
    | zero => intro m3 H locs ls hmeas; exact absurd hmeas (Nat.not_lt_zero _)
    | succ n ih =>
      intro m3 H locs ls hmeas hi hno hW hl
      refine lv_iload_n hx hb dX12_isCut_2 rfl (lv_at hl 0 rfl) ?_
      refine lv_aload_n hx hb dX12_isCut_3 rfl (lv_at hl 1 rfl) ?_
      refine rg_13_34 C hW (mm_ rfl) tw_1057 dX12_isCut_4 ?_
      refine lv_icmp_ge (tgt := 48) hx hb dX12_isCut_7 (by decide) (fun c1 => ?_) (fun c1 => ?_)
      · have c1 : (J 13 34).toInt ≤ m3.toInt := tle rfl rfl c1
        refine lv_iconst (v := 0) hx hb dX12_isCut_48 (by decide) ?_
        subst hQ9
        exact end_z C hr hlocks (by decide) () hW (by first | exact Or.inr (⟨by decide, show ¬ CUTP (J 105) (J 106) (J 107) (J 13 34).toInt a1.toInt a0.toInt.toNat from (by have e9 : m3.toInt = (J 13 34).toInt := (by omega); rw [← e9]; exact hno)⟩)) dX12_isCut_49
      · have c1 : m3.toInt < (J 13 34).toInt := tnle rfl rfl c1
        refine lv_aload_n hx hb dX12_isCut_10 rfl (lv_at hl 1 rfl) ?_
        refine rg_13_5 C hW (mm_ rfl) tw_1028 dX12_isCut_11 ?_
        refine lv_iload_n hx hb dX12_isCut_14 rfl (lv_at hl 0 rfl) ?_
        have hin : vp_in m3 40 := tin rfl (by omega)
        refine ra_105 C hW (mm_ rfl) hin dX12_isCut_15 ?_
        refine lv_topi (fun x2 (e2 : x2 = J 105 m3.toNatClampNeg) => ?_)
        have t2 : x2.toInt = (J 105 m3.toNatClampNeg).toInt := by rw [e2]
        refine lv_iload_n hx hb dX12_isCut_16 rfl (lv_at hl 2 rfl) ?_
        refine lv_icmp_ne (tgt := 42) hx hb dX12_isCut_17 (by decide) (fun c3 => ?_) (fun c3 => ?_)
        · have c3 : ¬ x2.toInt = a0.toInt := tne rfl rfl c3
          obtain ⟨x4, e4⟩ : ∃ y : Int32, y = m3 + 1 := ⟨_, rfl⟩
          refine lv_iinc (v := x4) (lv' := [(3, .int x4), (0, .ref (g.2.2.1 13)), (1, .int a0), (2, .int a1)]) hx hb dX12_isCut_42 hl (k := 0) rfl (by rw [e4]; rfl) (by decide) rfl (fun ls hl => ?_)
          try have t4 : x4.toInt = m3.toInt + 1 := tadd e4 rfl kp1 (by omega)
          refine lv_goto (tgt := 2) hx hb dX12_isCut_45 (by decide) ?_
          refine ih x4 H locs ls ?_ ?_ ?_ hW (lv_sub hl [0, 1, 2, 3] rfl)
          · show (40 - x4.toInt).toNat < n
            omega
          · show 0 ≤ x4.toInt ∧ x4.toInt ≤ (J 13 34).toInt
            first | omega | exact hi | assumption
          · show ¬ CUTP (J 105) (J 106) (J 107) x4.toInt a1.toInt a0.toInt.toNat
            exact cutp_no (c := m3.toNatClampNeg) hno (by have h8 := tcl m3; omega) (by omega) (by intro h1 h2 h3; omega)
        · have c3 : x2.toInt = a0.toInt := teq rfl rfl c3
          refine lv_iload_n hx hb dX12_isCut_20 rfl (lv_at hl 3 rfl) ?_
          refine lv_aload_n hx hb dX12_isCut_21 rfl (lv_at hl 1 rfl) ?_
          refine rg_13_6 C hW (mm_ rfl) tw_1029 dX12_isCut_22 ?_
          refine lv_iload_n hx hb dX12_isCut_25 rfl (lv_at hl 0 rfl) ?_
          have hin : vp_in m3 40 := tin rfl (by omega)
          refine ra_106 C hW (mm_ rfl) hin dX12_isCut_26 ?_
          refine lv_topi (fun x5 (e5 : x5 = J 106 m3.toNatClampNeg) => ?_)
          have t5 : x5.toInt = (J 106 m3.toNatClampNeg).toInt := by rw [e5]
          refine lv_icmp_lt (tgt := 42) hx hb dX12_isCut_27 (by decide) (fun c6 => ?_) (fun c6 => ?_)
          · have c6 : a1.toInt < x5.toInt := tlt rfl rfl c6
            obtain ⟨x7, e7⟩ : ∃ y : Int32, y = m3 + 1 := ⟨_, rfl⟩
            refine lv_iinc (v := x7) (lv' := [(3, .int x7), (0, .ref (g.2.2.1 13)), (1, .int a0), (2, .int a1)]) hx hb dX12_isCut_42 hl (k := 0) rfl (by rw [e7]; rfl) (by decide) rfl (fun ls hl => ?_)
            try have t7 : x7.toInt = m3.toInt + 1 := tadd e7 rfl kp1 (by omega)
            refine lv_goto (tgt := 2) hx hb dX12_isCut_45 (by decide) ?_
            refine ih x7 H locs ls ?_ ?_ ?_ hW (lv_sub hl [0, 1, 2, 3] rfl)
            · show (40 - x7.toInt).toNat < n
              omega
            · show 0 ≤ x7.toInt ∧ x7.toInt ≤ (J 13 34).toInt
              first | omega | exact hi | assumption
            · show ¬ CUTP (J 105) (J 106) (J 107) x7.toInt a1.toInt a0.toInt.toNat
              exact cutp_no (c := m3.toNatClampNeg) hno (by have h8 := tcl m3; omega) (by omega) (by intro h1 h2 h3; omega)
          · have c6 : x5.toInt ≤ a1.toInt := tnlt rfl rfl c6
            refine lv_iload_n hx hb dX12_isCut_30 rfl (lv_at hl 3 rfl) ?_
            refine lv_aload_n hx hb dX12_isCut_31 rfl (lv_at hl 1 rfl) ?_
            refine rg_13_7 C hW (mm_ rfl) tw_1030 dX12_isCut_32 ?_
            refine lv_iload_n hx hb dX12_isCut_35 rfl (lv_at hl 0 rfl) ?_
            have hin : vp_in m3 40 := tin rfl (by omega)
            refine ra_107 C hW (mm_ rfl) hin dX12_isCut_36 ?_
            refine lv_topi (fun x8 (e8 : x8 = J 107 m3.toNatClampNeg) => ?_)
            have t8 : x8.toInt = (J 107 m3.toNatClampNeg).toInt := by rw [e8]
            refine lv_icmp_gt (tgt := 42) hx hb dX12_isCut_37 (by decide) (fun c9 => ?_) (fun c9 => ?_)
            · have c9 : x8.toInt < a1.toInt := tlt rfl rfl c9
              obtain ⟨x10, e10⟩ : ∃ y : Int32, y = m3 + 1 := ⟨_, rfl⟩
              refine lv_iinc (v := x10) (lv' := [(3, .int x10), (0, .ref (g.2.2.1 13)), (1, .int a0), (2, .int a1)]) hx hb dX12_isCut_42 hl (k := 0) rfl (by rw [e10]; rfl) (by decide) rfl (fun ls hl => ?_)
              try have t10 : x10.toInt = m3.toInt + 1 := tadd e10 rfl kp1 (by omega)
              refine lv_goto (tgt := 2) hx hb dX12_isCut_45 (by decide) ?_
              refine ih x10 H locs ls ?_ ?_ ?_ hW (lv_sub hl [0, 1, 2, 3] rfl)
              · show (40 - x10.toInt).toNat < n
                omega
              · show 0 ≤ x10.toInt ∧ x10.toInt ≤ (J 13 34).toInt
                first | omega | exact hi | assumption
              · show ¬ CUTP (J 105) (J 106) (J 107) x10.toInt a1.toInt a0.toInt.toNat
                exact cutp_no (c := m3.toNatClampNeg) hno (by have h8 := tcl m3; omega) (by omega) (by intro h1 h2 h3; omega)
            · have c9 : a1.toInt ≤ x8.toInt := tnlt rfl rfl c9
              refine lv_iconst (v := 1) hx hb dX12_isCut_40 (by decide) ?_
              subst hQ9
              exact end_z C hr hlocks (by decide) () hW (by first | exact Or.inl ⟨by decide, show CUTP (J 105) (J 106) (J 107) (J 13 34).toInt a1.toInt a0.toInt.toNat from (by exact ⟨m3.toNatClampNeg, (by have h8 := tcl m3; omega), by omega, by omega, by omega⟩)⟩) dX12_isCut_41
  -- into the loop
  refine loop2 ((40 - (0 : Int32).toInt).toNat + 1) 0 H locs ls ?_ ?_ ?_ hW (lv_sub hl [0, 1, 2, 3] rfl)
  · exact Nat.lt_succ_self _
  · show 0 ≤ (0 : Int32).toInt ∧ (0 : Int32).toInt ≤ (J 13 34).toInt
    try rw [kp0]
    first | omega | exact hi | assumption
  · show ¬ CUTP (J 105) (J 106) (J 107) (0 : Int32).toInt a1.toInt a0.toInt.toNat
    try rw [kp0]
    exact cutp_0 (by first | rfl | exact kp0)

set_option maxHeartbeats 4000000 in
set_option maxRecDepth 100000 in
theorem c_X12_sounds_e (l : Launch) (g : gG) (J : Nat → Nat → Int32) (L : Nat → Nat → Int64) (I : Nat → Nat → Nat → Int32) (P : Nat → Nat → Nat → Option Nat) (E : Nat → Option Nat) (N : Nat → Nat) (sz : Nat) (a0 : Int32) (a1 : Int32) (a2 : Int32) (hwm : WM J) : Met l yX12_sounds (WS yX12_sounds cX12_sounds 6 none) (RM (3) 0 0) (PC g [.ref (g.2.2.1 13), .int a0, .int a1, .int a2] ((J, L, I, P, E, N), sgM g) sz) (va_Qv (fun (u : (Nat → Nat → Int32)) => (SND (u 146) (J 101) (J 102) (J 103) (J 104) (fun k => 0 ≤ a2.toInt ∧ CUTP (J 105) (J 106) (J 107) (J 13 34).toInt a2.toInt k) a0 a1 (J 13 32).toInt)) (fun u t => at_ g (FR g ((J, L, I, P, E, N), sgM g) sz) ((hv J [146] [] u, L, I, P, E, N), sgM g) t) (FR g ((J, L, I, P, E, N), sgM g) sz)) 0 0 (FR g ((J, L, I, P, E, N), sgM g) sz) := by
  refine ent (by decide +kernel) (Nat.le_of_ble_eq_true rfl) ?_
  intro p e s m below meth c ls hsz C hW hr hlocks hname hl
  generalize FR g ((J, L, I, P, E, N), sgM g) sz = A at C hW ⊢
  generalize hQ9 : (va_Qv (fun (u : (Nat → Nat → Int32)) => (SND (u 146) (J 101) (J 102) (J 103) (J 104) (fun k => 0 ≤ a2.toInt ∧ CUTP (J 105) (J 106) (J 107) (J 13 34).toInt a2.toInt k) a0 a1 (J 13 32).toInt)) (fun u t => at_ g A ((hv J [146] [] u, L, I, P, E, N), sgM g) t) A) = Q9
  have hx := C.1.1
  have hb := C.1.2.1
  have hts := C.1.2.2.2.2
  have hW : WB g A s.heap s.heap [] (J, L, I, P, E, N) (sgM g) := hW
  have hl : lv_has ls 6 [(0, .ref (g.2.2.1 13)), (1, .int a0), (2, .int a1), (3, .int a2)] := hl
  obtain ⟨H, hH⟩ : ∃ H : Heap, H = s.heap := ⟨_, rfl⟩
  obtain ⟨locs, hlocs⟩ : ∃ q : List Loc, q = [] := ⟨_, rfl⟩
  have hW : WB g A s.heap H locs (J, L, I, P, E, N) (sgM g) := by rw [hH, hlocs]; exact hW
  obtain ⟨⟨hnd1, hnd2, hon, hhm1, hhm2, hhN, hcu1, hcu2, hco1, hco2, hcN⟩, ⟨hrd1, hrd2⟩, ⟨hnw1, hnw2, hns1, hns2, hof⟩, ⟨htm1, htm2, hts_⟩, ⟨had1, had2, hrw1, hrw2, htp1, htp2⟩⟩ := id hwm
  refine start_ hH hlocs ?_
  refine lv_aload_n hx hb dX12_sounds_0 rfl (lv_at hl 0 rfl) ?_
  refine rg_13_46 C hW (mm_ rfl) tw_1069 dX12_sounds_1 ?_
  refine lv_iconst (v := 0) hx hb dX12_sounds_4 (by decide) ?_
  refine lv_iload_n hx hb dX12_sounds_5 rfl (lv_at hl 1 rfl) ?_
  have hin : vp_in 0 20 := tin kp0 (by omega)
  refine rs_146 C hW (mm_ rfl) hin dX12_sounds_6 (fun H locs hW => ?_)
  have hW : WB g A s.heap H locs ((up2 J 146 0 a0), L, I, P, E, N) (sgM g) := hW
  refine lv_iconst (v := 1) hx hb dX12_sounds_7 (by decide) ?_
  refine lv_istore (lv' := [(4, .int 1), (0, .ref (g.2.2.1 13)), (1, .int a0), (2, .int a1), (3, .int a2)]) hx hb dX12_sounds_8 hl (by decide) rfl (fun ls hl => ?_)
  have loop10 : ∀ (n : Nat) (m4 : Int32) (Gl1 : Nat → Nat → Int32) (H : Heap) (locs : List Loc) (ls : Array Slot), (20 - m4.toInt).toNat < n → 1 ≤ m4.toInt ∧ m4.toInt ≤ (J 13 32).toInt → SND (Gl1 146) (J 101) (J 102) (J 103) (J 104) (fun k => 0 ≤ a2.toInt ∧ CUTP (J 105) (J 106) (J 107) (J 13 34).toInt a2.toInt k) a0 a1 m4.toInt → WB g A s.heap H locs ((hv (up2 J 146 0 a0) [146] [] Gl1), L, I, P, E, N) (sgM g) → lv_has ls 6 [(4, .int m4), (0, .ref (g.2.2.1 13)), (1, .int a0), (2, .int a1), (3, .int a2)] → W p l e (RM (3) 0 0) s m ([.ref (g.2.2.1 13), .int a0, .int a1, .int a2] : List Value).toArray below meth c H locs 0 0 (MQ below Q9 ([.ref (g.2.2.1 13), .int a0, .int a1, .int a2] : List Value).toArray s 0 0 A) (F0 m 10 ls []) := by
    intro n
    induction n with
    | zero => intro m4 Gl1 H locs ls hmeas; exact absurd hmeas (Nat.not_lt_zero _)
    | succ n ih =>
      intro m4 Gl1 H locs ls hmeas hi hsn hW hl
      refine lv_iload hx hb dX12_sounds_10 (lv_at hl 0 rfl) ?_
      refine lv_aload_n hx hb dX12_sounds_12 rfl (lv_at hl 1 rfl) ?_
      refine rg_13_32 C hW (mm_ rfl) tw_1055 dX12_sounds_13 ?_
      refine lv_as (J 13 32) rfl ?_
      refine lv_icmp_ge (tgt := 121) hx hb dX12_sounds_16 (by decide) (fun c2 => ?_) (fun c2 => ?_)
      · have c2 : (J 13 32).toInt ≤ m4.toInt := tle rfl rfl c2
        have hWr : WB g A s.heap H locs (hv J [146] [] (hv (up2 J 146 0 a0) [146] [] Gl1), L, I, P, E, N) (sgM g) := by
          rw [← ag_hvE (J := J) (R := [146]) (F := []) (ag_hv rfl rfl (ag_up (Or.inl rfl) ag_rf))]
          exact hW
        subst hQ9
        exact end_v C hr hlocks (hv (up2 J 146 0 a0) [146] [] Gl1) hWr (show SND (Gl1 146) (J 101) (J 102) (J 103) (J 104) (fun k => 0 ≤ a2.toInt ∧ CUTP (J 105) (J 106) (J 107) (J 13 34).toInt a2.toInt k) a0 a1 (J 13 32).toInt from by (have e9 : m4.toInt = (J 13 32).toInt := (by omega); rw [← e9]; exact hsn)) dX12_sounds_121
      · have c2 : m4.toInt < (J 13 32).toInt := tnle rfl rfl c2
        refine lv_aload_n hx hb dX12_sounds_19 rfl (lv_at hl 1 rfl) ?_
        refine rg_13_46 C hW (mm_ rfl) tw_1069 dX12_sounds_20 ?_
        refine lv_aload_n hx hb dX12_sounds_23 rfl (lv_at hl 1 rfl) ?_
        refine rg_13_1 C hW (mm_ rfl) tw_1024 dX12_sounds_24 ?_
        refine lv_iload hx hb dX12_sounds_27 (lv_at hl 0 rfl) ?_
        have hin : vp_in m4 20 := tin rfl (by omega)
        refine ra_101 C hW (mm_ rfl) hin dX12_sounds_29 ?_
        refine lv_topi (fun x3 (e3 : x3 = J 101 m4.toNatClampNeg) => ?_)
        have q3 := hon m4.toNatClampNeg
        rw [← e3] at q3
        have k3 := tcl m4
        have hin : vp_in x3 20 := tin rfl (by omega)
        refine ra_146 C hW (mm_ rfl) hin dX12_sounds_30 ?_
        refine lv_topi (fun x4 (e4 : x4 = Gl1 146 x3.toNatClampNeg) => ?_)
        refine lv_aload_n hx hb dX12_sounds_31 rfl (lv_at hl 1 rfl) ?_
        refine rg_13_2 C hW (mm_ rfl) tw_1025 dX12_sounds_32 ?_
        refine lv_iload hx hb dX12_sounds_35 (lv_at hl 0 rfl) ?_
        have hin : vp_in m4 20 := tin rfl (by omega)
        refine ra_102 C hW (mm_ rfl) hin dX12_sounds_37 ?_
        refine lv_topi (fun x5 (e5 : x5 = J 102 m4.toNatClampNeg) => ?_)
        refine lv_bipush (v := 10) hx hb dX12_sounds_38 (by decide) ?_
        refine lv_iload_n hx hb dX12_sounds_40 rfl (lv_at hl 3 rfl) ?_
        refine lv_iadd hx hb dX12_sounds_41 ?_
        refine lv_topi (fun x6 (e6 : x6 = 10 + a1) => ?_)
        refine lv_imul hx hb dX12_sounds_42 ?_
        refine lv_topi (fun x7 (e7 : x7 = x5 * x6) => ?_)
        refine lv_bipush (v := 10) hx hb dX12_sounds_43 (by decide) ?_
        refine lv_idiv hx hb dX12_sounds_45 (by decide) ?_
        refine lv_topi (fun x8 (e8 : x8 = x7 / 10) => ?_)
        have t8 : x8.toInt = x7.toInt.tdiv 10 := tdiv e8 rfl kp10 (by decide)
        refine lv_isub hx hb dX12_sounds_46 ?_
        refine lv_topi (fun x9 (e9 : x9 = x4 - x8) => ?_)
        refine lv_istore (lv' := [(5, .int x9), (4, .int m4), (0, .ref (g.2.2.1 13)), (1, .int a0), (2, .int a1), (3, .int a2)]) hx hb dX12_sounds_47 hl (by decide) rfl (fun ls hl => ?_)
        refine lv_iload hx hb dX12_sounds_49 (lv_at hl 0 rfl) ?_
        refine lv_if_le (tgt := 68) hx hb dX12_sounds_51 (by decide) (fun c10 => ?_) (fun c10 => ?_)
        · have c10 : x9.toInt ≤ 0 := tle rfl kp0 c10
          refine lv_iconst (v := 0) hx hb dX12_sounds_68 (by decide) ?_
          refine lv_goto (tgt := 90) hx hb dX12_sounds_69 (by decide) ?_
          refine lv_istore (lv' := [(5, .int 0), (4, .int m4), (0, .ref (g.2.2.1 13)), (1, .int a0), (2, .int a1), (3, .int a2)]) hx hb dX12_sounds_90 hl (by decide) rfl (fun ls hl => ?_)
          refine lv_aload_n hx hb dX12_sounds_92 rfl (lv_at hl 2 rfl) ?_
          refine rg_13_46 C hW (mm_ rfl) tw_1069 dX12_sounds_93 ?_
          refine lv_iload hx hb dX12_sounds_96 (lv_at hl 1 rfl) ?_
          refine lv_iload hx hb dX12_sounds_98 (lv_at hl 0 rfl) ?_
          refine lv_sipush (v := 999) hx hb dX12_sounds_100 (by decide) ?_
          refine lv_icmp_le (tgt := 112) hx hb dX12_sounds_103 (by decide) (fun c11 => ?_) (fun c11 => ?_)
          · skip
            refine lv_iload hx hb dX12_sounds_112 (lv_at hl 0 rfl) ?_
            have hin : vp_in m4 20 := tin rfl (by omega)
            refine rs_146 C hW (mm_ rfl) hin dX12_sounds_114 (fun H locs hW => ?_)
            obtain ⟨x12, e12⟩ : ∃ y : Int32, y = m4 + 1 := ⟨_, rfl⟩
            refine lv_iinc (v := x12) (lv' := [(4, .int x12), (5, .int 0), (0, .ref (g.2.2.1 13)), (1, .int a0), (2, .int a1), (3, .int a2)]) hx hb dX12_sounds_115 hl (k := 1) rfl (by rw [e12]; rfl) (by decide) rfl (fun ls hl => ?_)
            try have t12 : x12.toInt = m4.toInt + 1 := tadd e12 rfl kp1 (by omega)
            refine lv_goto (tgt := 10) hx hb dX12_sounds_118 (by decide) ?_
            have hWl : WB g A s.heap H locs ((hv (up2 J 146 0 a0) [146] [] (up2 (hv (up2 J 146 0 a0) [146] [] Gl1) 146 m4.toNatClampNeg 0)), L, I, P, E, N) (sgM g) := by
              rw [← ag_hvE (J := (up2 J 146 0 a0)) (R := [146]) (F := []) (ag_up (Or.inl rfl) (ag_hv rfl rfl ag_rf))]
              exact hW
            refine ih x12 (up2 (hv (up2 J 146 0 a0) [146] [] Gl1) 146 m4.toNatClampNeg 0) H locs ls ?_ ?_ ?_ hWl (lv_sub hl [0, 2, 3, 4, 5] rfl)
            · show (20 - x12.toInt).toNat < n
              omega
            · show 1 ≤ x12.toInt ∧ x12.toInt ≤ (J 13 32).toInt
              first | omega | exact hi | assumption
            · show SND ((up2 Gl1 146 m4.toNatClampNeg 0) 146) (J 101) (J 102) (J 103) (J 104) (fun k => 0 ≤ a2.toInt ∧ CUTP (J 105) (J 106) (J 107) (J 13 34).toInt a2.toInt k) a0 a1 x12.toInt
              first | exact snd_s (c := m4.toNatClampNeg) hsn rfl (by have h8 := tcl m4; omega) (by omega) (by omega) (fun k h1 h2 => (hon k h1 (by omega)).2) (fun _ => rfl) (fun _ => fv_0 (l := x9) (by rw [e9, e4, e3, e8, e7, e5, e6]) (by omega)) | exact snd_s (c := m4.toNatClampNeg) hsn rfl (by have h8 := tcl m4; omega) (by omega) (by omega) (fun k h1 h2 => (hon k h1 (by omega)).2) (fun _ => rfl) (fun z => absurd ⟨by omega, ycut⟩ z)
          · exact absurd (by decide) c11
        · have c10 : 0 < x9.toInt := tnle rfl kp0 c10
          refine lv_iload_n hx hb dX12_sounds_54 rfl (lv_at hl 5 rfl) ?_
          refine lv_if_lt (tgt := 72) hx hb dX12_sounds_55 (by decide) (fun c13 => ?_) (fun c13 => ?_)
          · have c13 : a2.toInt < 0 := tlt rfl kp0 c13
            have ncut : ¬ (0 ≤ a2.toInt ∧ CUTP (J 105) (J 106) (J 107) (J 13 34).toInt a2.toInt m4.toNatClampNeg) := fun z => absurd z.1 (by omega)
            refine lv_iload hx hb dX12_sounds_72 (lv_at hl 0 rfl) ?_
            refine lv_aload_n hx hb dX12_sounds_74 rfl (lv_at hl 2 rfl) ?_
            refine rg_13_3 C hW (mm_ rfl) tw_1026 dX12_sounds_75 ?_
            refine lv_iload hx hb dX12_sounds_78 (lv_at hl 1 rfl) ?_
            have hin : vp_in m4 20 := tin rfl (by omega)
            refine ra_103 C hW (mm_ rfl) hin dX12_sounds_80 ?_
            refine lv_topi (fun x14 (e14 : x14 = J 103 m4.toNatClampNeg) => ?_)
            refine lv_iadd hx hb dX12_sounds_81 ?_
            refine lv_topi (fun x15 (e15 : x15 = x9 + x14) => ?_)
            refine lv_aload_n hx hb dX12_sounds_82 rfl (lv_at hl 2 rfl) ?_
            refine rg_13_4 C hW (mm_ rfl) tw_1027 dX12_sounds_83 ?_
            refine lv_iload hx hb dX12_sounds_86 (lv_at hl 1 rfl) ?_
            have hin : vp_in m4 20 := tin rfl (by omega)
            refine ra_104 C hW (mm_ rfl) hin dX12_sounds_88 ?_
            refine lv_topi (fun x16 (e16 : x16 = J 104 m4.toNatClampNeg) => ?_)
            refine lv_iadd hx hb dX12_sounds_89 ?_
            refine lv_topi (fun x17 (e17 : x17 = x15 + x16) => ?_)
            refine lv_istore (lv' := [(5, .int x17), (4, .int m4), (0, .ref (g.2.2.1 13)), (1, .int a0), (2, .int a1), (3, .int a2)]) hx hb dX12_sounds_90 hl (by decide) rfl (fun ls hl => ?_)
            refine lv_aload_n hx hb dX12_sounds_92 rfl (lv_at hl 2 rfl) ?_
            refine rg_13_46 C hW (mm_ rfl) tw_1069 dX12_sounds_93 ?_
            refine lv_iload hx hb dX12_sounds_96 (lv_at hl 1 rfl) ?_
            refine lv_iload hx hb dX12_sounds_98 (lv_at hl 0 rfl) ?_
            refine lv_sipush (v := 999) hx hb dX12_sounds_100 (by decide) ?_
            refine lv_icmp_le (tgt := 112) hx hb dX12_sounds_103 (by decide) (fun c18 => ?_) (fun c18 => ?_)
            · have c18 : x17.toInt ≤ 999 := tle rfl kp999 c18
              refine lv_iload hx hb dX12_sounds_112 (lv_at hl 0 rfl) ?_
              have hin : vp_in m4 20 := tin rfl (by omega)
              refine rs_146 C hW (mm_ rfl) hin dX12_sounds_114 (fun H locs hW => ?_)
              obtain ⟨x19, e19⟩ : ∃ y : Int32, y = m4 + 1 := ⟨_, rfl⟩
              refine lv_iinc (v := x19) (lv' := [(4, .int x19), (5, .int x17), (0, .ref (g.2.2.1 13)), (1, .int a0), (2, .int a1), (3, .int a2)]) hx hb dX12_sounds_115 hl (k := 1) rfl (by rw [e19]; rfl) (by decide) rfl (fun ls hl => ?_)
              try have t19 : x19.toInt = m4.toInt + 1 := tadd e19 rfl kp1 (by omega)
              refine lv_goto (tgt := 10) hx hb dX12_sounds_118 (by decide) ?_
              have hWl : WB g A s.heap H locs ((hv (up2 J 146 0 a0) [146] [] (up2 (hv (up2 J 146 0 a0) [146] [] Gl1) 146 m4.toNatClampNeg x17)), L, I, P, E, N) (sgM g) := by
                rw [← ag_hvE (J := (up2 J 146 0 a0)) (R := [146]) (F := []) (ag_up (Or.inl rfl) (ag_hv rfl rfl ag_rf))]
                exact hW
              refine ih x19 (up2 (hv (up2 J 146 0 a0) [146] [] Gl1) 146 m4.toNatClampNeg x17) H locs ls ?_ ?_ ?_ hWl (lv_sub hl [0, 2, 3, 4, 5] rfl)
              · show (20 - x19.toInt).toNat < n
                omega
              · show 1 ≤ x19.toInt ∧ x19.toInt ≤ (J 13 32).toInt
                first | omega | exact hi | assumption
              · show SND ((up2 Gl1 146 m4.toNatClampNeg x17) 146) (J 101) (J 102) (J 103) (J 104) (fun k => 0 ≤ a2.toInt ∧ CUTP (J 105) (J 106) (J 107) (J 13 34).toInt a2.toInt k) a0 a1 x19.toInt
                first | exact snd_s (c := m4.toNatClampNeg) hsn rfl (by have h8 := tcl m4; omega) (by omega) (by omega) (fun k h1 h2 => (hon k h1 (by omega)).2) ((fun z => absurd z ncut)) (fun _ => fv_n (l := x9) (m := x17) (by rw [e9, e4, e3, e8, e7, e5, e6]) (by omega) (by rw [e17, e15, e14, e16]) (by omega))
            · have c18 : 999 < x17.toInt := tnle rfl kp999 c18
              refine lv_sipush (v := 999) hx hb dX12_sounds_106 (by decide) ?_
              refine lv_goto (tgt := 114) hx hb dX12_sounds_109 (by decide) ?_
              have hin : vp_in m4 20 := tin rfl (by omega)
              refine rs_146 C hW (mm_ rfl) hin dX12_sounds_114 (fun H locs hW => ?_)
              obtain ⟨x20, e20⟩ : ∃ y : Int32, y = m4 + 1 := ⟨_, rfl⟩
              refine lv_iinc (v := x20) (lv' := [(4, .int x20), (5, .int x17), (0, .ref (g.2.2.1 13)), (1, .int a0), (2, .int a1), (3, .int a2)]) hx hb dX12_sounds_115 hl (k := 1) rfl (by rw [e20]; rfl) (by decide) rfl (fun ls hl => ?_)
              try have t20 : x20.toInt = m4.toInt + 1 := tadd e20 rfl kp1 (by omega)
              refine lv_goto (tgt := 10) hx hb dX12_sounds_118 (by decide) ?_
              have hWl : WB g A s.heap H locs ((hv (up2 J 146 0 a0) [146] [] (up2 (hv (up2 J 146 0 a0) [146] [] Gl1) 146 m4.toNatClampNeg 999)), L, I, P, E, N) (sgM g) := by
                rw [← ag_hvE (J := (up2 J 146 0 a0)) (R := [146]) (F := []) (ag_up (Or.inl rfl) (ag_hv rfl rfl ag_rf))]
                exact hW
              refine ih x20 (up2 (hv (up2 J 146 0 a0) [146] [] Gl1) 146 m4.toNatClampNeg 999) H locs ls ?_ ?_ ?_ hWl (lv_sub hl [0, 2, 3, 4, 5] rfl)
              · show (20 - x20.toInt).toNat < n
                omega
              · show 1 ≤ x20.toInt ∧ x20.toInt ≤ (J 13 32).toInt
                first | omega | exact hi | assumption
              · show SND ((up2 Gl1 146 m4.toNatClampNeg 999) 146) (J 101) (J 102) (J 103) (J 104) (fun k => 0 ≤ a2.toInt ∧ CUTP (J 105) (J 106) (J 107) (J 13 34).toInt a2.toInt k) a0 a1 x20.toInt
                first | exact snd_s (c := m4.toNatClampNeg) hsn rfl (by have h8 := tcl m4; omega) (by omega) (by omega) (fun k h1 h2 => (hon k h1 (by omega)).2) ((fun z => absurd z ncut)) (fun _ => fv_c (l := x9) (m := x17) (by rw [e9, e4, e3, e8, e7, e5, e6]) (by omega) (by rw [e17, e15, e14, e16]) (by omega))
          · have c13 : 0 ≤ a2.toInt := tnlt rfl kp0 c13
            refine lv_aload_n hx hb dX12_sounds_58 rfl (lv_at hl 2 rfl) ?_
            refine lv_iload hx hb dX12_sounds_59 (lv_at hl 1 rfl) ?_
            refine lv_iload_n hx hb dX12_sounds_61 rfl (lv_at hl 5 rfl) ?_
            refine ci_ C hW (runV (x := (g.2.2.1 13)) (As := [.int m4, .int a2]) (rest := []) (T := (((hv (up2 J 146 0 a0) [146] [] Gl1), L, I, P, E, N), sgM g)) C hW (c_X12_isCut_e l g (hv (up2 J 146 0 a0) [146] [] Gl1) L I P E N H.size m4 a2 hwm (show 0 ≤ m4.toInt from by omega)) mi_X12_isCut tw_1281 (recv_ (T := (((hv (up2 J 146 0 a0) [146] [] Gl1), L, I, P, E, N), sgM g)) C hW (mm_ rfl) rfl rfl) ⟨rfl, rfl, Nat.le_of_ble_eq_true rfl, Nat.le_of_ble_eq_true rfl⟩ rfl hl.1 rfl (Nat.le_of_ble_eq_true rfl) dX12_sounds_62 ⟨Nat.le_of_ble_eq_true rfl, Nat.le_of_ble_eq_true rfl⟩) (fun r21 u21 H locs hp21 hW => ?_)
            have hc21 : ((r21.toInt = 1 ∧ CUTP (J 105) (J 106) (J 107) (J 13 34).toInt a2.toInt m4.toInt.toNat) ∨ (r21.toInt = 0 ∧ ¬ CUTP (J 105) (J 106) (J 107) (J 13 34).toInt a2.toInt m4.toInt.toNat)) := hp21
            clear hp21
            have hW : WB g A s.heap H locs ((hv (up2 J 146 0 a0) [146] [] Gl1), L, I, P, E, N) (sgM g) := hW
            refine lv_if_eq (tgt := 72) hx hb dX12_sounds_65 (by decide) (fun c22 => ?_) (fun c22 => ?_)
            · have c22 : r21.toInt = 0 := teq rfl kp0 c22
              have ncut : ¬ (0 ≤ a2.toInt ∧ CUTP (J 105) (J 106) (J 107) (J 13 34).toInt a2.toInt m4.toNatClampNeg) := fun z => hc21.elim (fun q => absurd q.1 (by omega)) (fun q => q.2 z.2)
              refine lv_iload hx hb dX12_sounds_72 (lv_at hl 0 rfl) ?_
              refine lv_aload_n hx hb dX12_sounds_74 rfl (lv_at hl 2 rfl) ?_
              refine rg_13_3 C hW (mm_ rfl) tw_1026 dX12_sounds_75 ?_
              refine lv_iload hx hb dX12_sounds_78 (lv_at hl 1 rfl) ?_
              have hin : vp_in m4 20 := tin rfl (by omega)
              refine ra_103 C hW (mm_ rfl) hin dX12_sounds_80 ?_
              refine lv_topi (fun x23 (e23 : x23 = J 103 m4.toNatClampNeg) => ?_)
              refine lv_iadd hx hb dX12_sounds_81 ?_
              refine lv_topi (fun x24 (e24 : x24 = x9 + x23) => ?_)
              refine lv_aload_n hx hb dX12_sounds_82 rfl (lv_at hl 2 rfl) ?_
              refine rg_13_4 C hW (mm_ rfl) tw_1027 dX12_sounds_83 ?_
              refine lv_iload hx hb dX12_sounds_86 (lv_at hl 1 rfl) ?_
              have hin : vp_in m4 20 := tin rfl (by omega)
              refine ra_104 C hW (mm_ rfl) hin dX12_sounds_88 ?_
              refine lv_topi (fun x25 (e25 : x25 = J 104 m4.toNatClampNeg) => ?_)
              refine lv_iadd hx hb dX12_sounds_89 ?_
              refine lv_topi (fun x26 (e26 : x26 = x24 + x25) => ?_)
              refine lv_istore (lv' := [(5, .int x26), (4, .int m4), (0, .ref (g.2.2.1 13)), (1, .int a0), (2, .int a1), (3, .int a2)]) hx hb dX12_sounds_90 hl (by decide) rfl (fun ls hl => ?_)
              refine lv_aload_n hx hb dX12_sounds_92 rfl (lv_at hl 2 rfl) ?_
              refine rg_13_46 C hW (mm_ rfl) tw_1069 dX12_sounds_93 ?_
              refine lv_iload hx hb dX12_sounds_96 (lv_at hl 1 rfl) ?_
              refine lv_iload hx hb dX12_sounds_98 (lv_at hl 0 rfl) ?_
              refine lv_sipush (v := 999) hx hb dX12_sounds_100 (by decide) ?_
              refine lv_icmp_le (tgt := 112) hx hb dX12_sounds_103 (by decide) (fun c27 => ?_) (fun c27 => ?_)
              · have c27 : x26.toInt ≤ 999 := tle rfl kp999 c27
                refine lv_iload hx hb dX12_sounds_112 (lv_at hl 0 rfl) ?_
                have hin : vp_in m4 20 := tin rfl (by omega)
                refine rs_146 C hW (mm_ rfl) hin dX12_sounds_114 (fun H locs hW => ?_)
                obtain ⟨x28, e28⟩ : ∃ y : Int32, y = m4 + 1 := ⟨_, rfl⟩
                refine lv_iinc (v := x28) (lv' := [(4, .int x28), (5, .int x26), (0, .ref (g.2.2.1 13)), (1, .int a0), (2, .int a1), (3, .int a2)]) hx hb dX12_sounds_115 hl (k := 1) rfl (by rw [e28]; rfl) (by decide) rfl (fun ls hl => ?_)
                try have t28 : x28.toInt = m4.toInt + 1 := tadd e28 rfl kp1 (by omega)
                refine lv_goto (tgt := 10) hx hb dX12_sounds_118 (by decide) ?_
                have hWl : WB g A s.heap H locs ((hv (up2 J 146 0 a0) [146] [] (up2 (hv (up2 J 146 0 a0) [146] [] Gl1) 146 m4.toNatClampNeg x26)), L, I, P, E, N) (sgM g) := by
                  rw [← ag_hvE (J := (up2 J 146 0 a0)) (R := [146]) (F := []) (ag_up (Or.inl rfl) (ag_hv rfl rfl ag_rf))]
                  exact hW
                refine ih x28 (up2 (hv (up2 J 146 0 a0) [146] [] Gl1) 146 m4.toNatClampNeg x26) H locs ls ?_ ?_ ?_ hWl (lv_sub hl [0, 2, 3, 4, 5] rfl)
                · show (20 - x28.toInt).toNat < n
                  omega
                · show 1 ≤ x28.toInt ∧ x28.toInt ≤ (J 13 32).toInt
                  first | omega | exact hi | assumption
                · show SND ((up2 Gl1 146 m4.toNatClampNeg x26) 146) (J 101) (J 102) (J 103) (J 104) (fun k => 0 ≤ a2.toInt ∧ CUTP (J 105) (J 106) (J 107) (J 13 34).toInt a2.toInt k) a0 a1 x28.toInt
                  first | exact snd_s (c := m4.toNatClampNeg) hsn rfl (by have h8 := tcl m4; omega) (by omega) (by omega) (fun k h1 h2 => (hon k h1 (by omega)).2) ((fun z => absurd z ncut)) (fun _ => fv_n (l := x9) (m := x26) (by rw [e9, e4, e3, e8, e7, e5, e6]) (by omega) (by rw [e26, e24, e23, e25]) (by omega))
              · have c27 : 999 < x26.toInt := tnle rfl kp999 c27
                refine lv_sipush (v := 999) hx hb dX12_sounds_106 (by decide) ?_
                refine lv_goto (tgt := 114) hx hb dX12_sounds_109 (by decide) ?_
                have hin : vp_in m4 20 := tin rfl (by omega)
                refine rs_146 C hW (mm_ rfl) hin dX12_sounds_114 (fun H locs hW => ?_)
                obtain ⟨x29, e29⟩ : ∃ y : Int32, y = m4 + 1 := ⟨_, rfl⟩
                refine lv_iinc (v := x29) (lv' := [(4, .int x29), (5, .int x26), (0, .ref (g.2.2.1 13)), (1, .int a0), (2, .int a1), (3, .int a2)]) hx hb dX12_sounds_115 hl (k := 1) rfl (by rw [e29]; rfl) (by decide) rfl (fun ls hl => ?_)
                try have t29 : x29.toInt = m4.toInt + 1 := tadd e29 rfl kp1 (by omega)
                refine lv_goto (tgt := 10) hx hb dX12_sounds_118 (by decide) ?_
                have hWl : WB g A s.heap H locs ((hv (up2 J 146 0 a0) [146] [] (up2 (hv (up2 J 146 0 a0) [146] [] Gl1) 146 m4.toNatClampNeg 999)), L, I, P, E, N) (sgM g) := by
                  rw [← ag_hvE (J := (up2 J 146 0 a0)) (R := [146]) (F := []) (ag_up (Or.inl rfl) (ag_hv rfl rfl ag_rf))]
                  exact hW
                refine ih x29 (up2 (hv (up2 J 146 0 a0) [146] [] Gl1) 146 m4.toNatClampNeg 999) H locs ls ?_ ?_ ?_ hWl (lv_sub hl [0, 2, 3, 4, 5] rfl)
                · show (20 - x29.toInt).toNat < n
                  omega
                · show 1 ≤ x29.toInt ∧ x29.toInt ≤ (J 13 32).toInt
                  first | omega | exact hi | assumption
                · show SND ((up2 Gl1 146 m4.toNatClampNeg 999) 146) (J 101) (J 102) (J 103) (J 104) (fun k => 0 ≤ a2.toInt ∧ CUTP (J 105) (J 106) (J 107) (J 13 34).toInt a2.toInt k) a0 a1 x29.toInt
                  first | exact snd_s (c := m4.toNatClampNeg) hsn rfl (by have h8 := tcl m4; omega) (by omega) (by omega) (fun k h1 h2 => (hon k h1 (by omega)).2) ((fun z => absurd z ncut)) (fun _ => fv_c (l := x9) (m := x26) (by rw [e9, e4, e3, e8, e7, e5, e6]) (by omega) (by rw [e26, e24, e23, e25]) (by omega))
            · have c22 : ¬ r21.toInt = 0 := tne rfl kp0 c22
              have ycut : CUTP (J 105) (J 106) (J 107) (J 13 34).toInt a2.toInt m4.toNatClampNeg := hc21.elim (fun q => q.2) (fun q => absurd q.1 (by omega))
              refine lv_iconst (v := 0) hx hb dX12_sounds_68 (by decide) ?_
              refine lv_goto (tgt := 90) hx hb dX12_sounds_69 (by decide) ?_
              refine lv_istore (lv' := [(5, .int 0), (4, .int m4), (0, .ref (g.2.2.1 13)), (1, .int a0), (2, .int a1), (3, .int a2)]) hx hb dX12_sounds_90 hl (by decide) rfl (fun ls hl => ?_)
              refine lv_aload_n hx hb dX12_sounds_92 rfl (lv_at hl 2 rfl) ?_
              refine rg_13_46 C hW (mm_ rfl) tw_1069 dX12_sounds_93 ?_
              refine lv_iload hx hb dX12_sounds_96 (lv_at hl 1 rfl) ?_
              refine lv_iload hx hb dX12_sounds_98 (lv_at hl 0 rfl) ?_
              refine lv_sipush (v := 999) hx hb dX12_sounds_100 (by decide) ?_
              refine lv_icmp_le (tgt := 112) hx hb dX12_sounds_103 (by decide) (fun c30 => ?_) (fun c30 => ?_)
              · skip
                refine lv_iload hx hb dX12_sounds_112 (lv_at hl 0 rfl) ?_
                have hin : vp_in m4 20 := tin rfl (by omega)
                refine rs_146 C hW (mm_ rfl) hin dX12_sounds_114 (fun H locs hW => ?_)
                obtain ⟨x31, e31⟩ : ∃ y : Int32, y = m4 + 1 := ⟨_, rfl⟩
                refine lv_iinc (v := x31) (lv' := [(4, .int x31), (5, .int 0), (0, .ref (g.2.2.1 13)), (1, .int a0), (2, .int a1), (3, .int a2)]) hx hb dX12_sounds_115 hl (k := 1) rfl (by rw [e31]; rfl) (by decide) rfl (fun ls hl => ?_)
                try have t31 : x31.toInt = m4.toInt + 1 := tadd e31 rfl kp1 (by omega)
                refine lv_goto (tgt := 10) hx hb dX12_sounds_118 (by decide) ?_
                have hWl : WB g A s.heap H locs ((hv (up2 J 146 0 a0) [146] [] (up2 (hv (up2 J 146 0 a0) [146] [] Gl1) 146 m4.toNatClampNeg 0)), L, I, P, E, N) (sgM g) := by
                  rw [← ag_hvE (J := (up2 J 146 0 a0)) (R := [146]) (F := []) (ag_up (Or.inl rfl) (ag_hv rfl rfl ag_rf))]
                  exact hW
                refine ih x31 (up2 (hv (up2 J 146 0 a0) [146] [] Gl1) 146 m4.toNatClampNeg 0) H locs ls ?_ ?_ ?_ hWl (lv_sub hl [0, 2, 3, 4, 5] rfl)
                · show (20 - x31.toInt).toNat < n
                  omega
                · show 1 ≤ x31.toInt ∧ x31.toInt ≤ (J 13 32).toInt
                  first | omega | exact hi | assumption
                · show SND ((up2 Gl1 146 m4.toNatClampNeg 0) 146) (J 101) (J 102) (J 103) (J 104) (fun k => 0 ≤ a2.toInt ∧ CUTP (J 105) (J 106) (J 107) (J 13 34).toInt a2.toInt k) a0 a1 x31.toInt
                  first | exact snd_s (c := m4.toNatClampNeg) hsn rfl (by have h8 := tcl m4; omega) (by omega) (by omega) (fun k h1 h2 => (hon k h1 (by omega)).2) (fun _ => rfl) (fun _ => fv_0 (l := x9) (by rw [e9, e4, e3, e8, e7, e5, e6]) (by omega)) | exact snd_s (c := m4.toNatClampNeg) hsn rfl (by have h8 := tcl m4; omega) (by omega) (by omega) (fun k h1 h2 => (hon k h1 (by omega)).2) (fun _ => rfl) (fun z => absurd ⟨by omega, ycut⟩ z)
              · exact absurd (by decide) c30
  -- into the loop
  have hWl : WB g A s.heap H locs ((hv (up2 J 146 0 a0) [146] [] (up2 J 146 0 a0)), L, I, P, E, N) (sgM g) := by
    rw [← ag_hvE (J := (up2 J 146 0 a0)) (R := [146]) (F := []) ag_rf]
    exact hW
  refine loop10 ((20 - (1 : Int32).toInt).toNat + 1) 1 (up2 J 146 0 a0) H locs ls ?_ ?_ ?_ hWl (lv_sub hl [0, 1, 2, 3, 4] rfl)
  · exact Nat.lt_succ_self _
  · show 1 ≤ (1 : Int32).toInt ∧ (1 : Int32).toInt ≤ (J 13 32).toInt
    try rw [kp1]
    first | omega | exact hi | assumption
  · show SND ((up2 J 146 0 a0) 146) (J 101) (J 102) (J 103) (J 104) (fun k => 0 ≤ a2.toInt ∧ CUTP (J 105) (J 106) (J 107) (J 13 34).toInt a2.toInt k) a0 a1 (1 : Int32).toInt
    try rw [kp1]
    exact snd_1 (up2_s _ _ _ _) (by first | rfl | exact kp1)

set_option maxHeartbeats 4000000 in
set_option maxRecDepth 100000 in
theorem c_X12_loud_e (l : Launch) (g : gG) (J : Nat → Nat → Int32) (L : Nat → Nat → Int64) (I : Nat → Nat → Nat → Int32) (P : Nat → Nat → Nat → Option Nat) (E : Nat → Option Nat) (N : Nat → Nat) (sz : Nat) (a0 : Int32) (a1 : Int32) (hwm : WM J) : Met l yX12_loud (WS yX12_loud cX12_loud 4 (some .int)) (RM (4) 0 0) (PC g [.ref (g.2.2.1 13), .int a0, .int a1] ((J, L, I, P, E, N), sgM g) sz) (va_Qi (fun (r : Int32) (u : (Nat → Nat → Int32)) => ((r.toInt = (-1) ∧ (¬ (0 ≤ a0.toInt ∧ a0.toInt < (J 13 32).toInt))) ∨ (r.toInt = (-4) ∧ (0 ≤ a0.toInt ∧ a0.toInt < (J 13 32).toInt ∧ a1.toInt < 1)) ∨ (r.toInt = (-6) ∧ (0 ≤ a0.toInt ∧ a0.toInt < (J 13 32).toInt ∧ 1 ≤ a1.toInt ∧ 999 < a1.toInt)) ∨ (r = r ∧ (0 ≤ a0.toInt ∧ a0.toInt < (J 13 32).toInt ∧ 1 ≤ a1.toInt ∧ a1.toInt ≤ 999) ∧ (∃ x : Nat → Int32, SND x (J 101) (J 102) (J 103) (J 104) (fun k => 0 ≤ (J 13 31).toInt ∧ CUTP (J 105) (J 106) (J 107) (J 13 34).toInt (J 13 31).toInt k) a1 (J 13 33) (J 13 32).toInt ∧ r = x a0.toNatClampNeg)))) (fun u t => at_ g (FR g ((J, L, I, P, E, N), sgM g) sz) ((hv J [100, 146] [] u, L, I, P, E, N), sgM g) t) (FR g ((J, L, I, P, E, N), sgM g) sz)) 0 0 (FR g ((J, L, I, P, E, N), sgM g) sz) := by
  refine ent (by decide +kernel) (Nat.le_of_ble_eq_true rfl) ?_
  intro p e s m below meth c ls hsz C hW hr hlocks hname hl
  generalize FR g ((J, L, I, P, E, N), sgM g) sz = A at C hW ⊢
  generalize hQ9 : (va_Qi (fun (r : Int32) (u : (Nat → Nat → Int32)) => ((r.toInt = (-1) ∧ (¬ (0 ≤ a0.toInt ∧ a0.toInt < (J 13 32).toInt))) ∨ (r.toInt = (-4) ∧ (0 ≤ a0.toInt ∧ a0.toInt < (J 13 32).toInt ∧ a1.toInt < 1)) ∨ (r.toInt = (-6) ∧ (0 ≤ a0.toInt ∧ a0.toInt < (J 13 32).toInt ∧ 1 ≤ a1.toInt ∧ 999 < a1.toInt)) ∨ (r = r ∧ (0 ≤ a0.toInt ∧ a0.toInt < (J 13 32).toInt ∧ 1 ≤ a1.toInt ∧ a1.toInt ≤ 999) ∧ (∃ x : Nat → Int32, SND x (J 101) (J 102) (J 103) (J 104) (fun k => 0 ≤ (J 13 31).toInt ∧ CUTP (J 105) (J 106) (J 107) (J 13 34).toInt (J 13 31).toInt k) a1 (J 13 33) (J 13 32).toInt ∧ r = x a0.toNatClampNeg)))) (fun u t => at_ g A ((hv J [100, 146] [] u, L, I, P, E, N), sgM g) t) A) = Q9
  have hx := C.1.1
  have hb := C.1.2.1
  have hts := C.1.2.2.2.2
  have hW : WB g A s.heap s.heap [] (J, L, I, P, E, N) (sgM g) := hW
  have hl : lv_has ls 4 [(0, .ref (g.2.2.1 13)), (1, .int a0), (2, .int a1)] := hl
  obtain ⟨H, hH⟩ : ∃ H : Heap, H = s.heap := ⟨_, rfl⟩
  obtain ⟨locs, hlocs⟩ : ∃ q : List Loc, q = [] := ⟨_, rfl⟩
  have hW : WB g A s.heap H locs (J, L, I, P, E, N) (sgM g) := by rw [hH, hlocs]; exact hW
  obtain ⟨⟨hnd1, hnd2, hon, hhm1, hhm2, hhN, hcu1, hcu2, hco1, hco2, hcN⟩, ⟨hrd1, hrd2⟩, ⟨hnw1, hnw2, hns1, hns2, hof⟩, ⟨htm1, htm2, hts_⟩, ⟨had1, had2, hrw1, hrw2, htp1, htp2⟩⟩ := id hwm
  refine start_ hH hlocs ?_
  refine lv_aload_n hx hb dX12_loud_0 rfl (lv_at hl 0 rfl) ?_
  refine lv_iload_n hx hb dX12_loud_1 rfl (lv_at hl 1 rfl) ?_
  refine ci_ C hW (runV (x := (g.2.2.1 13)) (As := [.int a0]) (rest := []) (T := ((J, L, I, P, E, N), sgM g)) C hW (c_X12_isNode l g J L I P E N H.size a0 hwm) mi_X12_isNode tw_1251 (recv_ (T := ((J, L, I, P, E, N), sgM g)) C hW (mm_ rfl) rfl rfl) ⟨rfl, rfl, Nat.le_of_ble_eq_true rfl, Nat.le_of_ble_eq_true rfl⟩ rfl hl.1 rfl (Nat.le_of_ble_eq_true rfl) dX12_loud_2 ⟨Nat.le_of_ble_eq_true rfl, Nat.le_of_ble_eq_true rfl⟩) (fun r1 u1 H locs hp1 hW => ?_)
  have hc1 : ((r1.toInt = 1 ∧ (0 ≤ a0.toInt ∧ a0.toInt < (J 13 32).toInt)) ∨ (r1.toInt = 0 ∧ (¬ (0 ≤ a0.toInt ∧ a0.toInt < (J 13 32).toInt)))) := hp1
  clear hp1
  have hW : WB g A s.heap H locs (J, L, I, P, E, N) (sgM g) := hW
  refine lv_if_eq (tgt := 19) hx hb dX12_loud_5 (by decide) (fun c2 => ?_) (fun c2 => ?_)
  · have c2 : r1.toInt = 0 := teq rfl kp0 c2
    refine lv_iconst (v := (-1)) hx hb dX12_loud_19 (by decide) ?_
    refine lv_istore_n (lv' := [(3, .int (-1)), (0, .ref (g.2.2.1 13)), (1, .int a0), (2, .int a1)]) hx hb dX12_loud_20 rfl hl (by decide) rfl (fun ls hl => ?_)
    refine lv_iload_n hx hb dX12_loud_21 rfl (lv_at hl 0 rfl) ?_
    refine lv_if_eq (tgt := 31) hx hb dX12_loud_22 (by decide) (fun c3 => ?_) (fun c3 => ?_)
    · exact absurd c3 (by decide)
    · skip
      refine lv_aload_n hx hb dX12_loud_25 rfl (lv_at hl 1 rfl) ?_
      refine lv_iload_n hx hb dX12_loud_26 rfl (lv_at hl 0 rfl) ?_
      refine ci_ C hW (runV (x := (g.2.2.1 13)) (As := [.int (-1)]) (rest := []) (T := ((J, L, I, P, E, N), sgM g)) C hW (c_X12_refuse l g J L I P E N H.size (-1) (show -6 ≤ (-1 : Int32).toInt ∧ (-1 : Int32).toInt ≤ -1 from by (try simp only [kn1]); omega)) mi_X12_refuse tw_1239 (recv_ (T := ((J, L, I, P, E, N), sgM g)) C hW (mm_ rfl) rfl rfl) ⟨rfl, rfl, Nat.le_of_ble_eq_true rfl, Nat.le_of_ble_eq_true rfl⟩ rfl hl.1 rfl (Nat.le_of_ble_eq_true rfl) dX12_loud_27 ⟨Nat.le_of_ble_eq_true rfl, Nat.le_of_ble_eq_true rfl⟩) (fun r4 u4 H locs hp4 hW => ?_)
      have hc4 : ((r4 = (-1))) := hp4
      clear hp4
      have hr4 : r4.toInt = (-1) := by rw [hc4]; exact kn1
      have hW : WB g A s.heap H locs ((hv J [100] [] u4), L, I, P, E, N) (sgM g) := hW
      have hWr : WB g A s.heap H locs (hv J [100, 146] [] (hv J [100] [] u4), L, I, P, E, N) (sgM g) := by
        rw [← ag_hvE (J := J) (R := [100, 146]) (F := []) (ag_hv rfl rfl ag_rf)]
        exact hW
      subst hQ9
      exact end_i C hr hlocks (hv J [100] [] u4) hWr (by first | exact Or.inl ⟨by omega, by omega⟩ | exact Or.inr (Or.inl ⟨by omega, by omega⟩) | exact Or.inr (Or.inr (Or.inl ⟨by omega, by omega⟩)) | exact Or.inr (Or.inr (Or.inr (⟨by first | rfl | assumption, by omega, show (∃ x : Nat → Int32, SND x (J 101) (J 102) (J 103) (J 104) (fun k => 0 ≤ (J 13 31).toInt ∧ CUTP (J 105) (J 106) (J 107) (J 13 34).toInt (J 13 31).toInt k) a1 (J 13 33) (J 13 32).toInt ∧ r4 = x a0.toNatClampNeg) from (by omega)⟩))) | (rcases hc1 with qhc1 | qhc1 <;> first | exact Or.inl ⟨by omega, by omega⟩ | exact Or.inr (Or.inl ⟨by omega, by omega⟩) | exact Or.inr (Or.inr (Or.inl ⟨by omega, by omega⟩)) | exact Or.inr (Or.inr (Or.inr (⟨by first | rfl | assumption, by omega, show (∃ x : Nat → Int32, SND x (J 101) (J 102) (J 103) (J 104) (fun k => 0 ≤ (J 13 31).toInt ∧ CUTP (J 105) (J 106) (J 107) (J 13 34).toInt (J 13 31).toInt k) a1 (J 13 33) (J 13 32).toInt ∧ r4 = x a0.toNatClampNeg) from (by omega)⟩))) | (exfalso; omega))) dX12_loud_30
  · have c2 : ¬ r1.toInt = 0 := tne rfl kp0 c2
    refine lv_iload_n hx hb dX12_loud_8 rfl (lv_at hl 2 rfl) ?_
    refine lv_iconst (v := 1) hx hb dX12_loud_9 (by decide) ?_
    refine lv_sipush (v := 999) hx hb dX12_loud_10 (by decide) ?_
    refine ci_ C hW (runS (As := [.int a1, .int 1, .int 999]) (rest := []) (T := ((J, L, I, P, E, N), sgM g)) C hW (c_X12_within l g J L I P E N H.size a1 1 999 ) mi_X12_within tw_1258 ⟨rfl, rfl, Nat.le_of_ble_eq_true rfl, Nat.le_of_ble_eq_true rfl⟩ rfl hl.1 rfl (Nat.le_of_ble_eq_true rfl) dX12_loud_13 ⟨Nat.le_of_ble_eq_true rfl, Nat.le_of_ble_eq_true rfl⟩) (fun r5 u5 H locs hp5 hW => ?_)
    have hc5 : ((r5.toInt = (-4) ∧ (a1.toInt < 1)) ∨ (r5.toInt = (-6) ∧ (1 ≤ a1.toInt ∧ 999 < a1.toInt)) ∨ (r5.toInt = 0 ∧ (1 ≤ a1.toInt ∧ a1.toInt ≤ 999))) := hp5
    clear hp5
    have hW : WB g A s.heap H locs (J, L, I, P, E, N) (sgM g) := hW
    refine lv_goto (tgt := 20) hx hb dX12_loud_16 (by decide) ?_
    refine lv_istore_n (lv' := [(3, .int r5), (0, .ref (g.2.2.1 13)), (1, .int a0), (2, .int a1)]) hx hb dX12_loud_20 rfl hl (by decide) rfl (fun ls hl => ?_)
    refine lv_iload_n hx hb dX12_loud_21 rfl (lv_at hl 0 rfl) ?_
    refine lv_if_eq (tgt := 31) hx hb dX12_loud_22 (by decide) (fun c6 => ?_) (fun c6 => ?_)
    · have c6 : r5.toInt = 0 := teq rfl kp0 c6
      refine lv_aload_n hx hb dX12_loud_31 rfl (lv_at hl 1 rfl) ?_
      refine lv_iload_n hx hb dX12_loud_32 rfl (lv_at hl 3 rfl) ?_
      refine lv_aload_n hx hb dX12_loud_33 rfl (lv_at hl 1 rfl) ?_
      refine rg_13_33 C hW (mm_ rfl) tw_1056 dX12_loud_34 ?_
      refine lv_aload_n hx hb dX12_loud_37 rfl (lv_at hl 1 rfl) ?_
      refine rg_13_31 C hW (mm_ rfl) tw_1054 dX12_loud_38 ?_
      refine cv_ C hW (runV (x := (g.2.2.1 13)) (As := [.int a1, .int (J 13 33), .int (J 13 31)]) (rest := []) (T := ((J, L, I, P, E, N), sgM g)) C hW (c_X12_sounds_e l g J L I P E N H.size a1 (J 13 33) (J 13 31) hwm) mi_X12_sounds tw_1277 (recv_ (T := ((J, L, I, P, E, N), sgM g)) C hW (mm_ rfl) rfl rfl) ⟨rfl, rfl, Nat.le_of_ble_eq_true rfl, Nat.le_of_ble_eq_true rfl⟩ rfl hl.1 rfl (Nat.le_of_ble_eq_true rfl) dX12_loud_41 ⟨Nat.le_of_ble_eq_true rfl, Nat.le_of_ble_eq_true rfl⟩) (fun u7 H locs hp7 hW => ?_)
      have hf7_0 : (SND (u7 146) (J 101) (J 102) (J 103) (J 104) (fun k => 0 ≤ (J 13 31).toInt ∧ CUTP (J 105) (J 106) (J 107) (J 13 34).toInt (J 13 31).toInt k) a1 (J 13 33) (J 13 32).toInt) := hp7
      clear hp7
      have hW : WB g A s.heap H locs ((hv J [146] [] u7), L, I, P, E, N) (sgM g) := hW
      have hS := hf7_0
      refine lv_aload_n hx hb dX12_loud_44 rfl (lv_at hl 1 rfl) ?_
      refine rg_13_46 C hW (mm_ rfl) tw_1069 dX12_loud_45 ?_
      refine lv_iload_n hx hb dX12_loud_48 rfl (lv_at hl 2 rfl) ?_
      have hin : vp_in a0 20 := tin rfl (by omega)
      refine ra_146 C hW (mm_ rfl) hin dX12_loud_49 ?_
      refine lv_topi (fun x8 (e8 : x8 = u7 146 a0.toNatClampNeg) => ?_)
      have hWr : WB g A s.heap H locs (hv J [100, 146] [] (hv J [146] [] u7), L, I, P, E, N) (sgM g) := by
        rw [← ag_hvE (J := J) (R := [100, 146]) (F := []) (ag_hv rfl rfl ag_rf)]
        exact hW
      subst hQ9
      exact end_i C hr hlocks (hv J [146] [] u7) hWr (by first | exact Or.inl ⟨by omega, by omega⟩ | exact Or.inr (Or.inl ⟨by omega, by omega⟩) | exact Or.inr (Or.inr (Or.inl ⟨by omega, by omega⟩)) | exact Or.inr (Or.inr (Or.inr (⟨by first | rfl | assumption, by omega, show (∃ x : Nat → Int32, SND x (J 101) (J 102) (J 103) (J 104) (fun k => 0 ≤ (J 13 31).toInt ∧ CUTP (J 105) (J 106) (J 107) (J 13 34).toInt (J 13 31).toInt k) a1 (J 13 33) (J 13 32).toInt ∧ x8 = x a0.toNatClampNeg) from (by exact ⟨_, hS, e8⟩)⟩))) | (rcases hc1 with qhc1 | qhc1 <;> rcases hc5 with qhc5 | qhc5 | qhc5 <;> first | exact Or.inl ⟨by omega, by omega⟩ | exact Or.inr (Or.inl ⟨by omega, by omega⟩) | exact Or.inr (Or.inr (Or.inl ⟨by omega, by omega⟩)) | exact Or.inr (Or.inr (Or.inr (⟨by first | rfl | assumption, by omega, show (∃ x : Nat → Int32, SND x (J 101) (J 102) (J 103) (J 104) (fun k => 0 ≤ (J 13 31).toInt ∧ CUTP (J 105) (J 106) (J 107) (J 13 34).toInt (J 13 31).toInt k) a1 (J 13 33) (J 13 32).toInt ∧ x8 = x a0.toNatClampNeg) from (by exact ⟨_, hS, e8⟩)⟩))) | (exfalso; omega))) dX12_loud_50
    · have c6 : ¬ r5.toInt = 0 := tne rfl kp0 c6
      refine lv_aload_n hx hb dX12_loud_25 rfl (lv_at hl 1 rfl) ?_
      refine lv_iload_n hx hb dX12_loud_26 rfl (lv_at hl 0 rfl) ?_
      refine ci_ C hW (runV (x := (g.2.2.1 13)) (As := [.int r5]) (rest := []) (T := ((J, L, I, P, E, N), sgM g)) C hW (c_X12_refuse l g J L I P E N H.size r5 (show -6 ≤ r5.toInt ∧ r5.toInt ≤ -1 from by omega)) mi_X12_refuse tw_1239 (recv_ (T := ((J, L, I, P, E, N), sgM g)) C hW (mm_ rfl) rfl rfl) ⟨rfl, rfl, Nat.le_of_ble_eq_true rfl, Nat.le_of_ble_eq_true rfl⟩ rfl hl.1 rfl (Nat.le_of_ble_eq_true rfl) dX12_loud_27 ⟨Nat.le_of_ble_eq_true rfl, Nat.le_of_ble_eq_true rfl⟩) (fun r9 u9 H locs hp9 hW => ?_)
      have hc9 : ((r9 = r5)) := hp9
      clear hp9
      have hr9 : r9.toInt = (r5).toInt := by rw [hc9]
      have hW : WB g A s.heap H locs ((hv J [100] [] u9), L, I, P, E, N) (sgM g) := hW
      have hWr : WB g A s.heap H locs (hv J [100, 146] [] (hv J [100] [] u9), L, I, P, E, N) (sgM g) := by
        rw [← ag_hvE (J := J) (R := [100, 146]) (F := []) (ag_hv rfl rfl ag_rf)]
        exact hW
      subst hQ9
      exact end_i C hr hlocks (hv J [100] [] u9) hWr (by first | exact Or.inl ⟨by omega, by omega⟩ | exact Or.inr (Or.inl ⟨by omega, by omega⟩) | exact Or.inr (Or.inr (Or.inl ⟨by omega, by omega⟩)) | exact Or.inr (Or.inr (Or.inr (⟨by first | rfl | assumption, by omega, show (∃ x : Nat → Int32, SND x (J 101) (J 102) (J 103) (J 104) (fun k => 0 ≤ (J 13 31).toInt ∧ CUTP (J 105) (J 106) (J 107) (J 13 34).toInt (J 13 31).toInt k) a1 (J 13 33) (J 13 32).toInt ∧ r9 = x a0.toNatClampNeg) from (by omega)⟩))) | (rcases hc1 with qhc1 | qhc1 <;> rcases hc5 with qhc5 | qhc5 | qhc5 <;> first | exact Or.inl ⟨by omega, by omega⟩ | exact Or.inr (Or.inl ⟨by omega, by omega⟩) | exact Or.inr (Or.inr (Or.inl ⟨by omega, by omega⟩)) | exact Or.inr (Or.inr (Or.inr (⟨by first | rfl | assumption, by omega, show (∃ x : Nat → Int32, SND x (J 101) (J 102) (J 103) (J 104) (fun k => 0 ≤ (J 13 31).toInt ∧ CUTP (J 105) (J 106) (J 107) (J 13 34).toInt (J 13 31).toInt k) a1 (J 13 33) (J 13 32).toInt ∧ r9 = x a0.toNatClampNeg) from (by omega)⟩))) | (exfalso; omega))) dX12_loud_30

set_option maxHeartbeats 4000000 in
set_option maxRecDepth 100000 in
theorem c_X12_hearsNow_e (l : Launch) (g : gG) (J : Nat → Nat → Int32) (L : Nat → Nat → Int64) (I : Nat → Nat → Nat → Int32) (P : Nat → Nat → Nat → Option Nat) (E : Nat → Option Nat) (N : Nat → Nat) (sz : Nat) (a0 : Int32) (hwm : WM J) (hh : 0 ≤ a0.toInt ∧ a0.toInt < (J 13 35).toInt) : Met l yX12_hearsNow (WS yX12_hearsNow cX12_hearsNow 2 (some .boolean)) (RM (1) 0 0) (PC g [.ref (g.2.2.1 13), .int a0] ((J, L, I, P, E, N), sgM g) sz) (va_Qi (fun (r : Int32) (u : Unit) => (((r.toInt : Int) = 1 ∧ (J 13 36).toInt ≤ (J 146 (J 108 a0.toNatClampNeg).toNatClampNeg / J 109 a0.toNatClampNeg).toInt) ∨ ((r.toInt : Int) = 0 ∧ (J 146 (J 108 a0.toNatClampNeg).toNatClampNeg / J 109 a0.toNatClampNeg).toInt < (J 13 36).toInt))) (fun u t => at_ g (FR g ((J, L, I, P, E, N), sgM g) sz) ((J, L, I, P, E, N), sgM g) t) (FR g ((J, L, I, P, E, N), sgM g) sz)) 0 0 (FR g ((J, L, I, P, E, N), sgM g) sz) := by
  refine ent (by decide +kernel) (Nat.le_of_ble_eq_true rfl) ?_
  intro p e s m below meth c ls hsz C hW hr hlocks hname hl
  generalize FR g ((J, L, I, P, E, N), sgM g) sz = A at C hW ⊢
  generalize hQ9 : (va_Qi (fun (r : Int32) (u : Unit) => (((r.toInt : Int) = 1 ∧ (J 13 36).toInt ≤ (J 146 (J 108 a0.toNatClampNeg).toNatClampNeg / J 109 a0.toNatClampNeg).toInt) ∨ ((r.toInt : Int) = 0 ∧ (J 146 (J 108 a0.toNatClampNeg).toNatClampNeg / J 109 a0.toNatClampNeg).toInt < (J 13 36).toInt))) (fun u t => at_ g A ((J, L, I, P, E, N), sgM g) t) A) = Q9
  have hx := C.1.1
  have hb := C.1.2.1
  have hts := C.1.2.2.2.2
  have hW : WB g A s.heap s.heap [] (J, L, I, P, E, N) (sgM g) := hW
  have hl : lv_has ls 2 [(0, .ref (g.2.2.1 13)), (1, .int a0)] := hl
  obtain ⟨H, hH⟩ : ∃ H : Heap, H = s.heap := ⟨_, rfl⟩
  obtain ⟨locs, hlocs⟩ : ∃ q : List Loc, q = [] := ⟨_, rfl⟩
  have hW : WB g A s.heap H locs (J, L, I, P, E, N) (sgM g) := by rw [hH, hlocs]; exact hW
  obtain ⟨⟨hnd1, hnd2, hon, hhm1, hhm2, hhN, hcu1, hcu2, hco1, hco2, hcN⟩, ⟨hrd1, hrd2⟩, ⟨hnw1, hnw2, hns1, hns2, hof⟩, ⟨htm1, htm2, hts_⟩, ⟨had1, had2, hrw1, hrw2, htp1, htp2⟩⟩ := id hwm
  refine start_ hH hlocs ?_
  refine lv_aload_n hx hb dX12_hearsNow_0 rfl (lv_at hl 0 rfl) ?_
  refine rg_13_46 C hW (mm_ rfl) tw_1069 dX12_hearsNow_1 ?_
  refine lv_aload_n hx hb dX12_hearsNow_4 rfl (lv_at hl 0 rfl) ?_
  refine rg_13_8 C hW (mm_ rfl) tw_1031 dX12_hearsNow_5 ?_
  refine lv_iload_n hx hb dX12_hearsNow_8 rfl (lv_at hl 1 rfl) ?_
  have hin : vp_in a0 40 := tin rfl (by omega)
  refine ra_108 C hW (mm_ rfl) hin dX12_hearsNow_9 ?_
  refine lv_topi (fun x1 (e1 : x1 = J 108 a0.toNatClampNeg) => ?_)
  have q1 := hhN a0.toNatClampNeg
  rw [← e1] at q1
  have k1 := tcl a0
  have hin : vp_in x1 20 := tin rfl (by omega)
  refine ra_146 C hW (mm_ rfl) hin dX12_hearsNow_10 ?_
  refine lv_topi (fun x2 (e2 : x2 = J 146 x1.toNatClampNeg) => ?_)
  refine lv_aload_n hx hb dX12_hearsNow_11 rfl (lv_at hl 0 rfl) ?_
  refine rg_13_9 C hW (mm_ rfl) tw_1032 dX12_hearsNow_12 ?_
  refine lv_iload_n hx hb dX12_hearsNow_15 rfl (lv_at hl 1 rfl) ?_
  have hin : vp_in a0 40 := tin rfl (by omega)
  refine ra_109 C hW (mm_ rfl) hin dX12_hearsNow_16 ?_
  refine lv_topi (fun x3 (e3 : x3 = J 109 a0.toNatClampNeg) => ?_)
  have q3 := hhN a0.toNatClampNeg
  rw [← e3] at q3
  have k3 := tcl a0
  refine lv_idiv hx hb dX12_hearsNow_17 (nz0 (by omega)) ?_
  refine lv_topi (fun x4 (e4 : x4 = x2 / x3) => ?_)
  refine lv_aload_n hx hb dX12_hearsNow_18 rfl (lv_at hl 0 rfl) ?_
  refine rg_13_36 C hW (mm_ rfl) tw_1059 dX12_hearsNow_19 ?_
  refine lv_icmp_lt (tgt := 29) hx hb dX12_hearsNow_22 (by decide) (fun c5 => ?_) (fun c5 => ?_)
  · have c5 : x4.toInt < (J 13 36).toInt := tlt rfl rfl c5
    refine lv_iconst (v := 0) hx hb dX12_hearsNow_29 (by decide) ?_
    subst hQ9
    exact end_z C hr hlocks (by decide) () hW (show ((0 : Int) = 1 ∧ (J 13 36).toInt ≤ (J 146 (J 108 a0.toNatClampNeg).toNatClampNeg / J 109 a0.toNatClampNeg).toInt) ∨ ((0 : Int) = 0 ∧ (J 146 (J 108 a0.toNatClampNeg).toNatClampNeg / J 109 a0.toNatClampNeg).toInt < (J 13 36).toInt) from by (have hm9 : x4.toInt = (J 146 (J 108 a0.toNatClampNeg).toNatClampNeg / J 109 a0.toNatClampNeg).toInt := (by rw [e4, e2, e1, e3]); omega)) dX12_hearsNow_30
  · have c5 : (J 13 36).toInt ≤ x4.toInt := tnlt rfl rfl c5
    refine lv_iconst (v := 1) hx hb dX12_hearsNow_25 (by decide) ?_
    refine lv_goto (tgt := 30) hx hb dX12_hearsNow_26 (by decide) ?_
    subst hQ9
    exact end_z C hr hlocks (by decide) () hW (show ((1 : Int) = 1 ∧ (J 13 36).toInt ≤ (J 146 (J 108 a0.toNatClampNeg).toNatClampNeg / J 109 a0.toNatClampNeg).toInt) ∨ ((1 : Int) = 0 ∧ (J 146 (J 108 a0.toNatClampNeg).toNatClampNeg / J 109 a0.toNatClampNeg).toInt < (J 13 36).toInt) from by (have hm9 : x4.toInt = (J 146 (J 108 a0.toNatClampNeg).toNatClampNeg / J 109 a0.toNatClampNeg).toInt := (by rw [e4, e2, e1, e3]); omega)) dX12_hearsNow_30

set_option maxHeartbeats 4000000 in
set_option maxRecDepth 100000 in
theorem c_X12_hears_e (l : Launch) (g : gG) (J : Nat → Nat → Int32) (L : Nat → Nat → Int64) (I : Nat → Nat → Nat → Int32) (P : Nat → Nat → Nat → Option Nat) (E : Nat → Option Nat) (N : Nat → Nat) (sz : Nat) (a0 : Int32) (a1 : Int32) (hwm : WM J) : Met l yX12_hears (WS yX12_hears cX12_hears 4 (some .int)) (RM (4) 0 0) (PC g [.ref (g.2.2.1 13), .int a0, .int a1] ((J, L, I, P, E, N), sgM g) sz) (va_Qi (fun (r : Int32) (u : (Nat → Nat → Int32)) => ((r.toInt = (-1) ∧ (¬ (0 ≤ a0.toInt ∧ a0.toInt < (J 13 35).toInt))) ∨ (r.toInt = (-4) ∧ (0 ≤ a0.toInt ∧ a0.toInt < (J 13 35).toInt ∧ a1.toInt < 1)) ∨ (r.toInt = (-6) ∧ (0 ≤ a0.toInt ∧ a0.toInt < (J 13 35).toInt ∧ 1 ≤ a1.toInt ∧ 999 < a1.toInt)) ∨ (r.toInt = 1 ∧ (0 ≤ a0.toInt ∧ a0.toInt < (J 13 35).toInt ∧ 1 ≤ a1.toInt ∧ a1.toInt ≤ 999) ∧ (∃ x : Nat → Int32, SND x (J 101) (J 102) (J 103) (J 104) (fun k => 0 ≤ (J 13 31).toInt ∧ CUTP (J 105) (J 106) (J 107) (J 13 34).toInt (J 13 31).toInt k) a1 (J 13 33) (J 13 32).toInt ∧ (J 13 36).toInt ≤ (x (J 108 a0.toNatClampNeg).toNatClampNeg / J 109 a0.toNatClampNeg).toInt)) ∨ (r.toInt = 0 ∧ (0 ≤ a0.toInt ∧ a0.toInt < (J 13 35).toInt ∧ 1 ≤ a1.toInt ∧ a1.toInt ≤ 999) ∧ (∃ x : Nat → Int32, SND x (J 101) (J 102) (J 103) (J 104) (fun k => 0 ≤ (J 13 31).toInt ∧ CUTP (J 105) (J 106) (J 107) (J 13 34).toInt (J 13 31).toInt k) a1 (J 13 33) (J 13 32).toInt ∧ ¬ (J 13 36).toInt ≤ (x (J 108 a0.toNatClampNeg).toNatClampNeg / J 109 a0.toNatClampNeg).toInt)))) (fun u t => at_ g (FR g ((J, L, I, P, E, N), sgM g) sz) ((hv J [100, 146] [] u, L, I, P, E, N), sgM g) t) (FR g ((J, L, I, P, E, N), sgM g) sz)) 0 0 (FR g ((J, L, I, P, E, N), sgM g) sz) := by
  refine ent (by decide +kernel) (Nat.le_of_ble_eq_true rfl) ?_
  intro p e s m below meth c ls hsz C hW hr hlocks hname hl
  generalize FR g ((J, L, I, P, E, N), sgM g) sz = A at C hW ⊢
  generalize hQ9 : (va_Qi (fun (r : Int32) (u : (Nat → Nat → Int32)) => ((r.toInt = (-1) ∧ (¬ (0 ≤ a0.toInt ∧ a0.toInt < (J 13 35).toInt))) ∨ (r.toInt = (-4) ∧ (0 ≤ a0.toInt ∧ a0.toInt < (J 13 35).toInt ∧ a1.toInt < 1)) ∨ (r.toInt = (-6) ∧ (0 ≤ a0.toInt ∧ a0.toInt < (J 13 35).toInt ∧ 1 ≤ a1.toInt ∧ 999 < a1.toInt)) ∨ (r.toInt = 1 ∧ (0 ≤ a0.toInt ∧ a0.toInt < (J 13 35).toInt ∧ 1 ≤ a1.toInt ∧ a1.toInt ≤ 999) ∧ (∃ x : Nat → Int32, SND x (J 101) (J 102) (J 103) (J 104) (fun k => 0 ≤ (J 13 31).toInt ∧ CUTP (J 105) (J 106) (J 107) (J 13 34).toInt (J 13 31).toInt k) a1 (J 13 33) (J 13 32).toInt ∧ (J 13 36).toInt ≤ (x (J 108 a0.toNatClampNeg).toNatClampNeg / J 109 a0.toNatClampNeg).toInt)) ∨ (r.toInt = 0 ∧ (0 ≤ a0.toInt ∧ a0.toInt < (J 13 35).toInt ∧ 1 ≤ a1.toInt ∧ a1.toInt ≤ 999) ∧ (∃ x : Nat → Int32, SND x (J 101) (J 102) (J 103) (J 104) (fun k => 0 ≤ (J 13 31).toInt ∧ CUTP (J 105) (J 106) (J 107) (J 13 34).toInt (J 13 31).toInt k) a1 (J 13 33) (J 13 32).toInt ∧ ¬ (J 13 36).toInt ≤ (x (J 108 a0.toNatClampNeg).toNatClampNeg / J 109 a0.toNatClampNeg).toInt)))) (fun u t => at_ g A ((hv J [100, 146] [] u, L, I, P, E, N), sgM g) t) A) = Q9
  have hx := C.1.1
  have hb := C.1.2.1
  have hts := C.1.2.2.2.2
  have hW : WB g A s.heap s.heap [] (J, L, I, P, E, N) (sgM g) := hW
  have hl : lv_has ls 4 [(0, .ref (g.2.2.1 13)), (1, .int a0), (2, .int a1)] := hl
  obtain ⟨H, hH⟩ : ∃ H : Heap, H = s.heap := ⟨_, rfl⟩
  obtain ⟨locs, hlocs⟩ : ∃ q : List Loc, q = [] := ⟨_, rfl⟩
  have hW : WB g A s.heap H locs (J, L, I, P, E, N) (sgM g) := by rw [hH, hlocs]; exact hW
  obtain ⟨⟨hnd1, hnd2, hon, hhm1, hhm2, hhN, hcu1, hcu2, hco1, hco2, hcN⟩, ⟨hrd1, hrd2⟩, ⟨hnw1, hnw2, hns1, hns2, hof⟩, ⟨htm1, htm2, hts_⟩, ⟨had1, had2, hrw1, hrw2, htp1, htp2⟩⟩ := id hwm
  refine start_ hH hlocs ?_
  refine lv_aload_n hx hb dX12_hears_0 rfl (lv_at hl 0 rfl) ?_
  refine lv_iload_n hx hb dX12_hears_1 rfl (lv_at hl 1 rfl) ?_
  refine ci_ C hW (runV (x := (g.2.2.1 13)) (As := [.int a0]) (rest := []) (T := ((J, L, I, P, E, N), sgM g)) C hW (c_X12_isHome l g J L I P E N H.size a0 hwm) mi_X12_isHome tw_1298 (recv_ (T := ((J, L, I, P, E, N), sgM g)) C hW (mm_ rfl) rfl rfl) ⟨rfl, rfl, Nat.le_of_ble_eq_true rfl, Nat.le_of_ble_eq_true rfl⟩ rfl hl.1 rfl (Nat.le_of_ble_eq_true rfl) dX12_hears_2 ⟨Nat.le_of_ble_eq_true rfl, Nat.le_of_ble_eq_true rfl⟩) (fun r1 u1 H locs hp1 hW => ?_)
  have hc1 : ((r1.toInt = 1 ∧ (0 ≤ a0.toInt ∧ a0.toInt < (J 13 35).toInt)) ∨ (r1.toInt = 0 ∧ (¬ (0 ≤ a0.toInt ∧ a0.toInt < (J 13 35).toInt)))) := hp1
  clear hp1
  have hW : WB g A s.heap H locs (J, L, I, P, E, N) (sgM g) := hW
  refine lv_if_eq (tgt := 19) hx hb dX12_hears_5 (by decide) (fun c2 => ?_) (fun c2 => ?_)
  · have c2 : r1.toInt = 0 := teq rfl kp0 c2
    refine lv_iconst (v := (-1)) hx hb dX12_hears_19 (by decide) ?_
    refine lv_istore_n (lv' := [(3, .int (-1)), (0, .ref (g.2.2.1 13)), (1, .int a0), (2, .int a1)]) hx hb dX12_hears_20 rfl hl (by decide) rfl (fun ls hl => ?_)
    refine lv_iload_n hx hb dX12_hears_21 rfl (lv_at hl 0 rfl) ?_
    refine lv_if_eq (tgt := 31) hx hb dX12_hears_22 (by decide) (fun c3 => ?_) (fun c3 => ?_)
    · exact absurd c3 (by decide)
    · skip
      refine lv_aload_n hx hb dX12_hears_25 rfl (lv_at hl 1 rfl) ?_
      refine lv_iload_n hx hb dX12_hears_26 rfl (lv_at hl 0 rfl) ?_
      refine ci_ C hW (runV (x := (g.2.2.1 13)) (As := [.int (-1)]) (rest := []) (T := ((J, L, I, P, E, N), sgM g)) C hW (c_X12_refuse l g J L I P E N H.size (-1) (show -6 ≤ (-1 : Int32).toInt ∧ (-1 : Int32).toInt ≤ -1 from by (try simp only [kn1]); omega)) mi_X12_refuse tw_1239 (recv_ (T := ((J, L, I, P, E, N), sgM g)) C hW (mm_ rfl) rfl rfl) ⟨rfl, rfl, Nat.le_of_ble_eq_true rfl, Nat.le_of_ble_eq_true rfl⟩ rfl hl.1 rfl (Nat.le_of_ble_eq_true rfl) dX12_hears_27 ⟨Nat.le_of_ble_eq_true rfl, Nat.le_of_ble_eq_true rfl⟩) (fun r4 u4 H locs hp4 hW => ?_)
      have hc4 : ((r4 = (-1))) := hp4
      clear hp4
      have hr4 : r4.toInt = (-1) := by rw [hc4]; exact kn1
      have hW : WB g A s.heap H locs ((hv J [100] [] u4), L, I, P, E, N) (sgM g) := hW
      have hWr : WB g A s.heap H locs (hv J [100, 146] [] (hv J [100] [] u4), L, I, P, E, N) (sgM g) := by
        rw [← ag_hvE (J := J) (R := [100, 146]) (F := []) (ag_hv rfl rfl ag_rf)]
        exact hW
      subst hQ9
      exact end_i C hr hlocks (hv J [100] [] u4) hWr (by first | exact Or.inl ⟨by omega, by omega⟩ | exact Or.inr (Or.inl ⟨by omega, by omega⟩) | exact Or.inr (Or.inr (Or.inl ⟨by omega, by omega⟩)) | (rcases hc1 with qhc1 | qhc1 <;> first | exact Or.inl ⟨by omega, by omega⟩ | exact Or.inr (Or.inl ⟨by omega, by omega⟩) | exact Or.inr (Or.inr (Or.inl ⟨by omega, by omega⟩)) | (exfalso; omega))) dX12_hears_30
  · have c2 : ¬ r1.toInt = 0 := tne rfl kp0 c2
    refine lv_iload_n hx hb dX12_hears_8 rfl (lv_at hl 2 rfl) ?_
    refine lv_iconst (v := 1) hx hb dX12_hears_9 (by decide) ?_
    refine lv_sipush (v := 999) hx hb dX12_hears_10 (by decide) ?_
    refine ci_ C hW (runS (As := [.int a1, .int 1, .int 999]) (rest := []) (T := ((J, L, I, P, E, N), sgM g)) C hW (c_X12_within l g J L I P E N H.size a1 1 999 ) mi_X12_within tw_1258 ⟨rfl, rfl, Nat.le_of_ble_eq_true rfl, Nat.le_of_ble_eq_true rfl⟩ rfl hl.1 rfl (Nat.le_of_ble_eq_true rfl) dX12_hears_13 ⟨Nat.le_of_ble_eq_true rfl, Nat.le_of_ble_eq_true rfl⟩) (fun r5 u5 H locs hp5 hW => ?_)
    have hc5 : ((r5.toInt = (-4) ∧ (a1.toInt < 1)) ∨ (r5.toInt = (-6) ∧ (1 ≤ a1.toInt ∧ 999 < a1.toInt)) ∨ (r5.toInt = 0 ∧ (1 ≤ a1.toInt ∧ a1.toInt ≤ 999))) := hp5
    clear hp5
    have hW : WB g A s.heap H locs (J, L, I, P, E, N) (sgM g) := hW
    refine lv_goto (tgt := 20) hx hb dX12_hears_16 (by decide) ?_
    refine lv_istore_n (lv' := [(3, .int r5), (0, .ref (g.2.2.1 13)), (1, .int a0), (2, .int a1)]) hx hb dX12_hears_20 rfl hl (by decide) rfl (fun ls hl => ?_)
    refine lv_iload_n hx hb dX12_hears_21 rfl (lv_at hl 0 rfl) ?_
    refine lv_if_eq (tgt := 31) hx hb dX12_hears_22 (by decide) (fun c6 => ?_) (fun c6 => ?_)
    · have c6 : r5.toInt = 0 := teq rfl kp0 c6
      refine lv_aload_n hx hb dX12_hears_31 rfl (lv_at hl 1 rfl) ?_
      refine lv_iload_n hx hb dX12_hears_32 rfl (lv_at hl 3 rfl) ?_
      refine lv_aload_n hx hb dX12_hears_33 rfl (lv_at hl 1 rfl) ?_
      refine rg_13_33 C hW (mm_ rfl) tw_1056 dX12_hears_34 ?_
      refine lv_aload_n hx hb dX12_hears_37 rfl (lv_at hl 1 rfl) ?_
      refine rg_13_31 C hW (mm_ rfl) tw_1054 dX12_hears_38 ?_
      refine cv_ C hW (runV (x := (g.2.2.1 13)) (As := [.int a1, .int (J 13 33), .int (J 13 31)]) (rest := []) (T := ((J, L, I, P, E, N), sgM g)) C hW (c_X12_sounds_e l g J L I P E N H.size a1 (J 13 33) (J 13 31) hwm) mi_X12_sounds tw_1277 (recv_ (T := ((J, L, I, P, E, N), sgM g)) C hW (mm_ rfl) rfl rfl) ⟨rfl, rfl, Nat.le_of_ble_eq_true rfl, Nat.le_of_ble_eq_true rfl⟩ rfl hl.1 rfl (Nat.le_of_ble_eq_true rfl) dX12_hears_41 ⟨Nat.le_of_ble_eq_true rfl, Nat.le_of_ble_eq_true rfl⟩) (fun u7 H locs hp7 hW => ?_)
      have hf7_0 : (SND (u7 146) (J 101) (J 102) (J 103) (J 104) (fun k => 0 ≤ (J 13 31).toInt ∧ CUTP (J 105) (J 106) (J 107) (J 13 34).toInt (J 13 31).toInt k) a1 (J 13 33) (J 13 32).toInt) := hp7
      clear hp7
      have hW : WB g A s.heap H locs ((hv J [146] [] u7), L, I, P, E, N) (sgM g) := hW
      have hS := hf7_0
      refine lv_aload_n hx hb dX12_hears_44 rfl (lv_at hl 1 rfl) ?_
      refine lv_iload_n hx hb dX12_hears_45 rfl (lv_at hl 2 rfl) ?_
      refine ci_ C hW (runV (x := (g.2.2.1 13)) (As := [.int a0]) (rest := []) (T := (((hv J [146] [] u7), L, I, P, E, N), sgM g)) C hW (c_X12_hearsNow_e l g (hv J [146] [] u7) L I P E N H.size a0 hwm (show 0 ≤ a0.toInt ∧ a0.toInt < (J 13 35).toInt from by omega)) mi_X12_hearsNow tw_1302 (recv_ (T := (((hv J [146] [] u7), L, I, P, E, N), sgM g)) C hW (mm_ rfl) rfl rfl) ⟨rfl, rfl, Nat.le_of_ble_eq_true rfl, Nat.le_of_ble_eq_true rfl⟩ rfl hl.1 rfl (Nat.le_of_ble_eq_true rfl) dX12_hears_46 ⟨Nat.le_of_ble_eq_true rfl, Nat.le_of_ble_eq_true rfl⟩) (fun r8 u8 H locs hp8 hW => ?_)
      have hf8_0 : (((r8.toInt : Int) = 1 ∧ (J 13 36).toInt ≤ (u7 146 (J 108 a0.toNatClampNeg).toNatClampNeg / J 109 a0.toNatClampNeg).toInt) ∨ ((r8.toInt : Int) = 0 ∧ (u7 146 (J 108 a0.toNatClampNeg).toNatClampNeg / J 109 a0.toNatClampNeg).toInt < (J 13 36).toInt)) := hp8
      clear hp8
      have hW : WB g A s.heap H locs ((hv J [146] [] u7), L, I, P, E, N) (sgM g) := hW
      have hB := hf8_0
      refine lv_if_eq (tgt := 56) hx hb dX12_hears_49 (by decide) (fun c9 => ?_) (fun c9 => ?_)
      · have c9 : r8.toInt = 0 := teq rfl kp0 c9
        refine lv_iconst (v := 0) hx hb dX12_hears_56 (by decide) ?_
        have hWr : WB g A s.heap H locs (hv J [100, 146] [] (hv J [146] [] u7), L, I, P, E, N) (sgM g) := by
          rw [← ag_hvE (J := J) (R := [100, 146]) (F := []) (ag_hv rfl rfl ag_rf)]
          exact hW
        subst hQ9
        exact end_i C hr hlocks (hv J [146] [] u7) hWr (by first | exact Or.inr (Or.inr (Or.inr (Or.inr (⟨by decide, by omega, show (∃ x : Nat → Int32, SND x (J 101) (J 102) (J 103) (J 104) (fun k => 0 ≤ (J 13 31).toInt ∧ CUTP (J 105) (J 106) (J 107) (J 13 34).toInt (J 13 31).toInt k) a1 (J 13 33) (J 13 32).toInt ∧ ¬ (J 13 36).toInt ≤ (x (J 108 a0.toNatClampNeg).toNatClampNeg / J 109 a0.toNatClampNeg).toInt) from (by exact ⟨_, hS, hB.elim (fun q => absurd q.1 (by omega)) (fun q => Int.not_le.mpr q.2)⟩)⟩))))) dX12_hears_57
      · have c9 : ¬ r8.toInt = 0 := tne rfl kp0 c9
        refine lv_iconst (v := 1) hx hb dX12_hears_52 (by decide) ?_
        refine lv_goto (tgt := 57) hx hb dX12_hears_53 (by decide) ?_
        have hWr : WB g A s.heap H locs (hv J [100, 146] [] (hv J [146] [] u7), L, I, P, E, N) (sgM g) := by
          rw [← ag_hvE (J := J) (R := [100, 146]) (F := []) (ag_hv rfl rfl ag_rf)]
          exact hW
        subst hQ9
        exact end_i C hr hlocks (hv J [146] [] u7) hWr (by first | exact Or.inr (Or.inr (Or.inr (Or.inl ⟨by decide, by omega, show (∃ x : Nat → Int32, SND x (J 101) (J 102) (J 103) (J 104) (fun k => 0 ≤ (J 13 31).toInt ∧ CUTP (J 105) (J 106) (J 107) (J 13 34).toInt (J 13 31).toInt k) a1 (J 13 33) (J 13 32).toInt ∧ (J 13 36).toInt ≤ (x (J 108 a0.toNatClampNeg).toNatClampNeg / J 109 a0.toNatClampNeg).toInt) from (by exact ⟨_, hS, hB.elim (fun q => q.2) (fun q => absurd q.1 (by omega))⟩)⟩)))) dX12_hears_57
    · have c6 : ¬ r5.toInt = 0 := tne rfl kp0 c6
      refine lv_aload_n hx hb dX12_hears_25 rfl (lv_at hl 1 rfl) ?_
      refine lv_iload_n hx hb dX12_hears_26 rfl (lv_at hl 0 rfl) ?_
      refine ci_ C hW (runV (x := (g.2.2.1 13)) (As := [.int r5]) (rest := []) (T := ((J, L, I, P, E, N), sgM g)) C hW (c_X12_refuse l g J L I P E N H.size r5 (show -6 ≤ r5.toInt ∧ r5.toInt ≤ -1 from by omega)) mi_X12_refuse tw_1239 (recv_ (T := ((J, L, I, P, E, N), sgM g)) C hW (mm_ rfl) rfl rfl) ⟨rfl, rfl, Nat.le_of_ble_eq_true rfl, Nat.le_of_ble_eq_true rfl⟩ rfl hl.1 rfl (Nat.le_of_ble_eq_true rfl) dX12_hears_27 ⟨Nat.le_of_ble_eq_true rfl, Nat.le_of_ble_eq_true rfl⟩) (fun r10 u10 H locs hp10 hW => ?_)
      have hc10 : ((r10 = r5)) := hp10
      clear hp10
      have hr10 : r10.toInt = (r5).toInt := by rw [hc10]
      have hW : WB g A s.heap H locs ((hv J [100] [] u10), L, I, P, E, N) (sgM g) := hW
      have hWr : WB g A s.heap H locs (hv J [100, 146] [] (hv J [100] [] u10), L, I, P, E, N) (sgM g) := by
        rw [← ag_hvE (J := J) (R := [100, 146]) (F := []) (ag_hv rfl rfl ag_rf)]
        exact hW
      subst hQ9
      exact end_i C hr hlocks (hv J [100] [] u10) hWr (by first | exact Or.inl ⟨by omega, by omega⟩ | exact Or.inr (Or.inl ⟨by omega, by omega⟩) | exact Or.inr (Or.inr (Or.inl ⟨by omega, by omega⟩)) | (rcases hc1 with qhc1 | qhc1 <;> rcases hc5 with qhc5 | qhc5 | qhc5 <;> first | exact Or.inl ⟨by omega, by omega⟩ | exact Or.inr (Or.inl ⟨by omega, by omega⟩) | exact Or.inr (Or.inr (Or.inl ⟨by omega, by omega⟩)) | (exfalso; omega))) dX12_hears_30
