set_option maxHeartbeats 4000000 in
set_option maxRecDepth 100000 in
theorem c_X12_bits_e (l : Launch) (g : gG) (J : Nat → Nat → Int32) (L : Nat → Nat → Int64) (I : Nat → Nat → Nat → Int32) (P : Nat → Nat → Nat → Option Nat) (E : Nat → Option Nat) (N : Nat → Nat) (sz : Nat) (a0 : Int32) (h0 : 0 ≤ a0.toInt) : Met l yX12_bits (WS yX12_bits cX12_bits 3 (some .int)) (RM (1) 0 0) (PC g [.int a0] ((J, L, I, P, E, N), sgM g) sz) (va_Qi (fun (r : Int32) (u : Unit) => (r.toInt = ((CB (tN a0) 32 : Nat) : Int))) (fun u t => at_ g (FR g ((J, L, I, P, E, N), sgM g) sz) ((J, L, I, P, E, N), sgM g) t) (FR g ((J, L, I, P, E, N), sgM g) sz)) 0 0 (FR g ((J, L, I, P, E, N), sgM g) sz) := by
  refine ent (by decide +kernel) (Nat.le_of_ble_eq_true rfl) ?_
  intro p e s m below meth c ls hsz C hW hr hlocks hname hl
  generalize FR g ((J, L, I, P, E, N), sgM g) sz = A at C hW ⊢
  generalize hQ9 : (va_Qi (fun (r : Int32) (u : Unit) => (r.toInt = ((CB (tN a0) 32 : Nat) : Int))) (fun u t => at_ g A ((J, L, I, P, E, N), sgM g) t) A) = Q9
  have hx := C.1.1
  have hb := C.1.2.1
  have hts := C.1.2.2.2.2
  have hW : WB g A s.heap s.heap [] (J, L, I, P, E, N) (sgM g) := hW
  have hl : lv_has ls 3 [(0, .int a0)] := hl
  obtain ⟨H, hH⟩ : ∃ H : Heap, H = s.heap := ⟨_, rfl⟩
  obtain ⟨locs, hlocs⟩ : ∃ q : List Loc, q = [] := ⟨_, rfl⟩
  have hW : WB g A s.heap H locs (J, L, I, P, E, N) (sgM g) := by rw [hH, hlocs]; exact hW
  refine start_ hH hlocs ?_
  refine lv_iconst (v := 0) hx hb dX12_bits_0 (by decide) ?_
  refine lv_istore_n (lv' := [(1, .int 0), (0, .int a0)]) hx hb dX12_bits_1 rfl hl (by decide) rfl (fun ls hl => ?_)
  refine lv_iload_n hx hb dX12_bits_2 rfl (lv_at hl 1 rfl) ?_
  refine lv_istore_n (lv' := [(2, .int a0), (1, .int 0), (0, .int a0)]) hx hb dX12_bits_3 rfl hl (by decide) rfl (fun ls hl => ?_)
  have loop4 : ∀ (n : Nat) (m1 : Int32) (m2 : Int32) (H : Heap) (locs : List Loc) (ls : Array Slot), m2.toInt.toNat < n → 0 ≤ m1.toInt ∧ 0 ≤ m2.toInt → BTS m1 m2 a0 → WB g A s.heap H locs (J, L, I, P, E, N) (sgM g) → lv_has ls 3 [(2, .int m2), (1, .int m1), (0, .int a0)] → W p l e (RM (1) 0 0) s m ([.int a0] : List Value).toArray below meth c H locs 0 0 (MQ below Q9 ([.int a0] : List Value).toArray s 0 0 A) (F0 m 4 ls []) := by
    intro n
    induction n with
    | zero => intro m1 m2 H locs ls hmeas; exact absurd hmeas (Nat.not_lt_zero _)
    | succ n ih =>
      intro m1 m2 H locs ls hmeas hi hbt hW hl
      refine lv_iload_n hx hb dX12_bits_4 rfl (lv_at hl 0 rfl) ?_
      refine lv_if_le (tgt := 21) hx hb dX12_bits_5 (by decide) (fun c1 => ?_) (fun c1 => ?_)
      · have c1 : m2.toInt ≤ 0 := tle rfl kp0 c1
        refine lv_iload_n hx hb dX12_bits_21 rfl (lv_at hl 1 rfl) ?_
        subst hQ9
        exact end_i C hr hlocks () hW (show m1.toInt = ((CB (tN a0) 32 : Nat) : Int) from by exact bts_e hbt (by omega)) dX12_bits_22
      · have c1 : 0 < m2.toInt := tnle rfl kp0 c1
        refine lv_iload_n hx hb dX12_bits_8 rfl (lv_at hl 1 rfl) ?_
        refine lv_iload_n hx hb dX12_bits_9 rfl (lv_at hl 0 rfl) ?_
        refine lv_iconst (v := 1) hx hb dX12_bits_10 (by decide) ?_
        refine lv_iand hx hb dX12_bits_11 ?_
        refine lv_topi (fun x2 (e2 : x2 = m2 &&& 1) => ?_)
        refine lv_iadd hx hb dX12_bits_12 ?_
        refine lv_topi (fun x3 (e3 : x3 = m1 + x2) => ?_)
        try have t3 : x3.toInt = m1.toInt + x2.toInt := tadd e3 rfl rfl (by omega)
        refine lv_istore_n (lv' := [(1, .int x3), (2, .int m2), (0, .int a0)]) hx hb dX12_bits_13 rfl hl (by decide) rfl (fun ls hl => ?_)
        refine lv_iload_n hx hb dX12_bits_14 rfl (lv_at hl 1 rfl) ?_
        refine lv_iconst (v := 1) hx hb dX12_bits_15 (by decide) ?_
        refine lv_ishr hx hb dX12_bits_16 ?_
        refine lv_topi (fun x4 (e4 : x4 = m2 >>> (1 &&& 31)) => ?_)
        have t4 := tshr1 e4
        refine lv_istore_n (lv' := [(2, .int x4), (1, .int x3), (0, .int a0)]) hx hb dX12_bits_17 rfl hl (by decide) rfl (fun ls hl => ?_)
        refine lv_goto (tgt := 4) hx hb dX12_bits_18 (by decide) ?_
        refine ih x3 x4 H locs ls ?_ ?_ ?_ hW (lv_sub hl [0, 1, 2] rfl)
        · show x4.toInt.toNat < n
          omega
        · show 0 ≤ x3.toInt ∧ 0 ≤ x4.toInt
          (have hb9 := bts_b hbt; have ha9 := and_1 e2; have hx9 : x3.toInt = m1.toInt + x2.toInt := tadd e3 rfl rfl (by omega); omega)
        · show BTS x3 x4 a0
          exact bts_s hbt (by omega) e2 e3 e4 ⟨by omega, bts_b hbt⟩
  -- into the loop
  refine loop4 (a0.toInt.toNat + 1) 0 a0 H locs ls ?_ ?_ ?_ hW (lv_sub hl [0, 1, 2] rfl)
  · exact Nat.lt_succ_self _
  · show 0 ≤ (0 : Int32).toInt ∧ 0 ≤ a0.toInt
    try rw [kp0]
    first | omega | exact hi | assumption
  · show BTS (0 : Int32) a0 a0
    try rw [kp0]
    (show (0 : Int32).toInt + _ = _; rw [kp0]; omega)

set_option maxHeartbeats 4000000 in
set_option maxRecDepth 100000 in
theorem c_X12_counting_e (l : Launch) (g : gG) (J : Nat → Nat → Int32) (L : Nat → Nat → Int64) (I : Nat → Nat → Nat → Int32) (P : Nat → Nat → Nat → Option Nat) (E : Nat → Option Nat) (N : Nat → Nat) (sz : Nat)  (hwm : WM J) : Met l yX12_counting (WS yX12_counting cX12_counting 2 none) (RM (1) 0 0) (PC g [.ref (g.2.2.1 13)] ((J, L, I, P, E, N), sgM g) sz) (va_Qv (fun (u : (Nat → Nat → Int32)) => (CTG (u 167) (J 110) (fun h => ¬ (J 165 h).toInt = 0 ∧ ¬ (J 166 h).toInt = 0) (u 13 68).toInt (J 13 35).toInt ∧ 0 ≤ (u 13 68).toInt ∧ (u 13 68).toInt ≤ 40)) (fun u t => at_ g (FR g ((J, L, I, P, E, N), sgM g) sz) ((hv J [167] [(13, 68)] u, L, I, P, E, N), sgM g) t) (FR g ((J, L, I, P, E, N), sgM g) sz)) 0 0 (FR g ((J, L, I, P, E, N), sgM g) sz) := by
  refine ent (by decide +kernel) (Nat.le_of_ble_eq_true rfl) ?_
  intro p e s m below meth c ls hsz C hW hr hlocks hname hl
  generalize FR g ((J, L, I, P, E, N), sgM g) sz = A at C hW ⊢
  generalize hQ9 : (va_Qv (fun (u : (Nat → Nat → Int32)) => (CTG (u 167) (J 110) (fun h => ¬ (J 165 h).toInt = 0 ∧ ¬ (J 166 h).toInt = 0) (u 13 68).toInt (J 13 35).toInt ∧ 0 ≤ (u 13 68).toInt ∧ (u 13 68).toInt ≤ 40)) (fun u t => at_ g A ((hv J [167] [(13, 68)] u, L, I, P, E, N), sgM g) t) A) = Q9
  have hx := C.1.1
  have hb := C.1.2.1
  have hts := C.1.2.2.2.2
  have hW : WB g A s.heap s.heap [] (J, L, I, P, E, N) (sgM g) := hW
  have hl : lv_has ls 2 [(0, .ref (g.2.2.1 13))] := hl
  obtain ⟨H, hH⟩ : ∃ H : Heap, H = s.heap := ⟨_, rfl⟩
  obtain ⟨locs, hlocs⟩ : ∃ q : List Loc, q = [] := ⟨_, rfl⟩
  have hW : WB g A s.heap H locs (J, L, I, P, E, N) (sgM g) := by rw [hH, hlocs]; exact hW
  obtain ⟨⟨hnd1, hnd2, hon, hhm1, hhm2, hhN, hcu1, hcu2, hco1, hco2, hcN⟩, ⟨hrd1, hrd2⟩, ⟨hnw1, hnw2, hns1, hns2, hof⟩, ⟨htm1, htm2, hts_⟩, ⟨had1, had2, hrw1, hrw2, htp1, htp2⟩⟩ := id hwm
  refine start_ hH hlocs ?_
  refine lv_aload_n hx hb dX12_counting_0 rfl (lv_at hl 0 rfl) ?_
  refine lv_iconst (v := 0) hx hb dX12_counting_1 (by decide) ?_
  refine rp_13_68 C hW (mm_ rfl) tw_1091 dX12_counting_2 (fun H locs hW => ?_)
  refine lv_iconst (v := 0) hx hb dX12_counting_5 (by decide) ?_
  refine lv_istore_n (lv' := [(1, .int 0), (0, .ref (g.2.2.1 13))]) hx hb dX12_counting_6 rfl hl (by decide) rfl (fun ls hl => ?_)
  have loop7 : ∀ (n : Nat) (m1 : Int32) (Gl1 : Nat → Nat → Int32) (H : Heap) (locs : List Loc) (ls : Array Slot), (40 - m1.toInt).toNat < n → 0 ≤ m1.toInt ∧ m1.toInt ≤ (J 13 35).toInt ∧ 0 ≤ (Gl1 13 68).toInt ∧ (Gl1 13 68).toInt ≤ m1.toInt → CTG (Gl1 167) (J 110) (fun h => ¬ (J 165 h).toInt = 0 ∧ ¬ (J 166 h).toInt = 0) (Gl1 13 68).toInt m1.toInt → WB g A s.heap H locs ((hv (up2 J 13 68 0) [167] [(13, 68)] Gl1), L, I, P, E, N) (sgM g) → lv_has ls 2 [(1, .int m1), (0, .ref (g.2.2.1 13))] → W p l e (RM (1) 0 0) s m ([.ref (g.2.2.1 13)] : List Value).toArray below meth c H locs 0 0 (MQ below Q9 ([.ref (g.2.2.1 13)] : List Value).toArray s 0 0 A) (F0 m 7 ls []) := by
    intro n
    induction n with
    | zero => intro m1 Gl1 H locs ls hmeas; exact absurd hmeas (Nat.not_lt_zero _)
    | succ n ih =>
      intro m1 Gl1 H locs ls hmeas hi hcg hW hl
      refine lv_iload_n hx hb dX12_counting_7 rfl (lv_at hl 0 rfl) ?_
      refine lv_aload_n hx hb dX12_counting_8 rfl (lv_at hl 1 rfl) ?_
      refine rg_13_35 C hW (mm_ rfl) tw_1058 dX12_counting_9 ?_
      refine lv_as (J 13 35) rfl ?_
      refine lv_icmp_ge (tgt := 67) hx hb dX12_counting_12 (by decide) (fun c2 => ?_) (fun c2 => ?_)
      · have c2 : (J 13 35).toInt ≤ m1.toInt := tle rfl rfl c2
        have hWr : WB g A s.heap H locs (hv J [167] [(13, 68)] (hv (up2 J 13 68 0) [167] [(13, 68)] Gl1), L, I, P, E, N) (sgM g) := by
          rw [← ag_hvE (J := J) (R := [167]) (F := [(13, 68)]) (ag_hv rfl rfl (ag_up (Or.inr rfl) ag_rf))]
          exact hW
        subst hQ9
        exact end_v C hr hlocks (hv (up2 J 13 68 0) [167] [(13, 68)] Gl1) hWr (show CTG (Gl1 167) (J 110) (fun h => ¬ (J 165 h).toInt = 0 ∧ ¬ (J 166 h).toInt = 0) (Gl1 13 68).toInt (J 13 35).toInt ∧ 0 ≤ (Gl1 13 68).toInt ∧ (Gl1 13 68).toInt ≤ 40 from by (have e9 : m1.toInt = (J 13 35).toInt := (by omega); rw [e9] at hcg; exact ⟨hcg, by omega, by omega⟩)) dX12_counting_67
      · have c2 : m1.toInt < (J 13 35).toInt := tnle rfl rfl c2
        refine lv_aload_n hx hb dX12_counting_15 rfl (lv_at hl 1 rfl) ?_
        refine rg_13_65 C hW (mm_ rfl) tw_1088 dX12_counting_16 ?_
        refine lv_iload_n hx hb dX12_counting_19 rfl (lv_at hl 0 rfl) ?_
        have hin : vp_in m1 40 := tin rfl (by omega)
        refine ra_165 C hW (mm_ rfl) hin dX12_counting_20 ?_
        refine lv_topi (fun x3 (e3 : x3 = J 165 m1.toNatClampNeg) => ?_)
        have t3 : x3.toInt = (J 165 m1.toNatClampNeg).toInt := by rw [e3]
        refine lv_if_eq (tgt := 61) hx hb dX12_counting_21 (by decide) (fun c4 => ?_) (fun c4 => ?_)
        · have c4 : x3.toInt = 0 := teq rfl kp0 c4
          obtain ⟨x5, e5⟩ : ∃ y : Int32, y = m1 + 1 := ⟨_, rfl⟩
          refine lv_iinc (v := x5) (lv' := [(1, .int x5), (0, .ref (g.2.2.1 13))]) hx hb dX12_counting_61 hl (k := 0) rfl (by rw [e5]; rfl) (by decide) rfl (fun ls hl => ?_)
          try have t5 : x5.toInt = m1.toInt + 1 := tadd e5 rfl kp1 (by omega)
          refine lv_goto (tgt := 7) hx hb dX12_counting_64 (by decide) ?_
          have hWl : WB g A s.heap H locs ((hv (up2 J 13 68 0) [167] [(13, 68)] (hv (up2 J 13 68 0) [167] [(13, 68)] Gl1)), L, I, P, E, N) (sgM g) := by
            rw [← ag_hvE (J := (up2 J 13 68 0)) (R := [167]) (F := [(13, 68)]) (ag_hv rfl rfl ag_rf)]
            exact hW
          refine ih x5 (hv (up2 J 13 68 0) [167] [(13, 68)] Gl1) H locs ls ?_ ?_ ?_ hWl (lv_sub hl [0, 1] rfl)
          · show (40 - x5.toInt).toNat < n
            omega
          · show 0 ≤ x5.toInt ∧ x5.toInt ≤ (J 13 35).toInt ∧ 0 ≤ (Gl1 13 68).toInt ∧ (Gl1 13 68).toInt ≤ x5.toInt
            first | omega | exact hi | assumption
          · show CTG (Gl1 167) (J 110) (fun h => ¬ (J 165 h).toInt = 0 ∧ ¬ (J 166 h).toInt = 0) (Gl1 13 68).toInt x5.toInt
            exact ctg_n hcg (by omega) (by omega) (fun q => by have q1 : ¬ (J 165 m1.toNatClampNeg).toInt = 0 := q.1; have q2 : ¬ (J 166 m1.toNatClampNeg).toInt = 0 := q.2; omega)
        · have c4 : ¬ x3.toInt = 0 := tne rfl kp0 c4
          refine lv_aload_n hx hb dX12_counting_24 rfl (lv_at hl 1 rfl) ?_
          refine rg_13_66 C hW (mm_ rfl) tw_1089 dX12_counting_25 ?_
          refine lv_iload_n hx hb dX12_counting_28 rfl (lv_at hl 0 rfl) ?_
          have hin : vp_in m1 40 := tin rfl (by omega)
          refine ra_166 C hW (mm_ rfl) hin dX12_counting_29 ?_
          refine lv_topi (fun x6 (e6 : x6 = J 166 m1.toNatClampNeg) => ?_)
          have t6 : x6.toInt = (J 166 m1.toNatClampNeg).toInt := by rw [e6]
          refine lv_if_ne (tgt := 36) hx hb dX12_counting_30 (by decide) (fun c7 => ?_) (fun c7 => ?_)
          · have c7 : ¬ x6.toInt = 0 := tne rfl kp0 c7
            refine lv_aload_n hx hb dX12_counting_36 rfl (lv_at hl 1 rfl) ?_
            refine rg_13_67 C hW (mm_ rfl) tw_1090 dX12_counting_37 ?_
            refine lv_aload_n hx hb dX12_counting_40 rfl (lv_at hl 1 rfl) ?_
            refine rg_13_68 C hW (mm_ rfl) tw_1091 dX12_counting_41 ?_
            refine lv_as (Gl1 13 68) rfl ?_
            refine lv_aload_n hx hb dX12_counting_44 rfl (lv_at hl 1 rfl) ?_
            refine rg_13_10 C hW (mm_ rfl) tw_1033 dX12_counting_45 ?_
            refine lv_iload_n hx hb dX12_counting_48 rfl (lv_at hl 0 rfl) ?_
            have hin : vp_in m1 40 := tin rfl (by omega)
            refine ra_110 C hW (mm_ rfl) hin dX12_counting_49 ?_
            refine lv_topi (fun x8 (e8 : x8 = J 110 m1.toNatClampNeg) => ?_)
            have hin : vp_in (Gl1 13 68) 40 := tin rfl (by omega)
            refine rs_167 C hW (mm_ rfl) hin dX12_counting_50 (fun H locs hW => ?_)
            refine lv_aload_n hx hb dX12_counting_51 rfl (lv_at hl 1 rfl) ?_
            refine lv_dup hx hb dX12_counting_52 rfl ?_
            refine rg_13_68 C hW (mm_ rfl) tw_1091 dX12_counting_53 ?_
            refine lv_as (Gl1 13 68) rfl ?_
            refine lv_iconst (v := 1) hx hb dX12_counting_56 (by decide) ?_
            refine lv_iadd hx hb dX12_counting_57 ?_
            refine lv_topi (fun x9 (e9 : x9 = (Gl1 13 68) + 1) => ?_)
            try have t9 : x9.toInt = (Gl1 13 68).toInt + 1 := tadd e9 rfl kp1 (by omega)
            refine rp_13_68 C hW (mm_ rfl) tw_1091 dX12_counting_58 (fun H locs hW => ?_)
            obtain ⟨x10, e10⟩ : ∃ y : Int32, y = m1 + 1 := ⟨_, rfl⟩
            refine lv_iinc (v := x10) (lv' := [(1, .int x10), (0, .ref (g.2.2.1 13))]) hx hb dX12_counting_61 hl (k := 0) rfl (by rw [e10]; rfl) (by decide) rfl (fun ls hl => ?_)
            try have t10 : x10.toInt = m1.toInt + 1 := tadd e10 rfl kp1 (by omega)
            refine lv_goto (tgt := 7) hx hb dX12_counting_64 (by decide) ?_
            have hWl : WB g A s.heap H locs ((hv (up2 J 13 68 0) [167] [(13, 68)] (up2 (up2 (hv (up2 J 13 68 0) [167] [(13, 68)] Gl1) 167 ((Gl1 13 68).toNatClampNeg) x8) 13 68 x9)), L, I, P, E, N) (sgM g) := by
              rw [← ag_hvE (J := (up2 J 13 68 0)) (R := [167]) (F := [(13, 68)]) (ag_up (Or.inr rfl) (ag_up (Or.inl rfl) (ag_hv rfl rfl ag_rf)))]
              exact hW
            refine ih x10 (up2 (up2 (hv (up2 J 13 68 0) [167] [(13, 68)] Gl1) 167 ((Gl1 13 68).toNatClampNeg) x8) 13 68 x9) H locs ls ?_ ?_ ?_ hWl (lv_sub hl [0, 1] rfl)
            · show (40 - x10.toInt).toNat < n
              omega
            · show 0 ≤ x10.toInt ∧ x10.toInt ≤ (J 13 35).toInt ∧ 0 ≤ (x9).toInt ∧ (x9).toInt ≤ x10.toInt
              first | omega | exact hi | assumption
            · show CTG ((up2 Gl1 167 ((Gl1 13 68).toNatClampNeg) x8) 167) (J 110) (fun h => ¬ (J 165 h).toInt = 0 ∧ ¬ (J 166 h).toInt = 0) (x9).toInt x10.toInt
              exact ctg_y hcg rfl (by have h8 := tcl (Gl1 13 68); omega) (by omega) (by omega) (by omega) ⟨by show ¬ (J 165 m1.toNatClampNeg).toInt = 0; omega, by show ¬ (J 166 m1.toNatClampNeg).toInt = 0; omega⟩ e8
          · have c7 : x6.toInt = 0 := teq rfl kp0 c7
            refine lv_goto (tgt := 61) hx hb dX12_counting_33 (by decide) ?_
            obtain ⟨x11, e11⟩ : ∃ y : Int32, y = m1 + 1 := ⟨_, rfl⟩
            refine lv_iinc (v := x11) (lv' := [(1, .int x11), (0, .ref (g.2.2.1 13))]) hx hb dX12_counting_61 hl (k := 0) rfl (by rw [e11]; rfl) (by decide) rfl (fun ls hl => ?_)
            try have t11 : x11.toInt = m1.toInt + 1 := tadd e11 rfl kp1 (by omega)
            refine lv_goto (tgt := 7) hx hb dX12_counting_64 (by decide) ?_
            have hWl : WB g A s.heap H locs ((hv (up2 J 13 68 0) [167] [(13, 68)] (hv (up2 J 13 68 0) [167] [(13, 68)] Gl1)), L, I, P, E, N) (sgM g) := by
              rw [← ag_hvE (J := (up2 J 13 68 0)) (R := [167]) (F := [(13, 68)]) (ag_hv rfl rfl ag_rf)]
              exact hW
            refine ih x11 (hv (up2 J 13 68 0) [167] [(13, 68)] Gl1) H locs ls ?_ ?_ ?_ hWl (lv_sub hl [0, 1] rfl)
            · show (40 - x11.toInt).toNat < n
              omega
            · show 0 ≤ x11.toInt ∧ x11.toInt ≤ (J 13 35).toInt ∧ 0 ≤ (Gl1 13 68).toInt ∧ (Gl1 13 68).toInt ≤ x11.toInt
              first | omega | exact hi | assumption
            · show CTG (Gl1 167) (J 110) (fun h => ¬ (J 165 h).toInt = 0 ∧ ¬ (J 166 h).toInt = 0) (Gl1 13 68).toInt x11.toInt
              exact ctg_n hcg (by omega) (by omega) (fun q => by have q1 : ¬ (J 165 m1.toNatClampNeg).toInt = 0 := q.1; have q2 : ¬ (J 166 m1.toNatClampNeg).toInt = 0 := q.2; omega)
  -- into the loop
  have hWl : WB g A s.heap H locs ((hv (up2 J 13 68 0) [167] [(13, 68)] (up2 J 13 68 0)), L, I, P, E, N) (sgM g) := by
    rw [← ag_hvE (J := (up2 J 13 68 0)) (R := [167]) (F := [(13, 68)]) ag_rf]
    exact hW
  refine loop7 ((40 - (0 : Int32).toInt).toNat + 1) 0 (up2 J 13 68 0) H locs ls ?_ ?_ ?_ hWl (lv_sub hl [0, 1] rfl)
  · exact Nat.lt_succ_self _
  · show 0 ≤ (0 : Int32).toInt ∧ (0 : Int32).toInt ≤ (J 13 35).toInt ∧ 0 ≤ ((0 : Int32)).toInt ∧ ((0 : Int32)).toInt ≤ (0 : Int32).toInt
    try rw [kp0]
    first | omega | exact ⟨by decide, by omega, by decide, by decide⟩
  · show CTG (J 167) (J 110) (fun h => ¬ (J 165 h).toInt = 0 ∧ ¬ (J 166 h).toInt = 0) ((0 : Int32)).toInt (0 : Int32).toInt
    try rw [kp0]
    exact fun _ => rfl

set_option maxHeartbeats 4000000 in
set_option maxRecDepth 100000 in
theorem c_X12_isEnough_e (l : Launch) (g : gG) (J : Nat → Nat → Int32) (L : Nat → Nat → Int64) (I : Nat → Nat → Nat → Int32) (P : Nat → Nat → Nat → Option Nat) (E : Nat → Option Nat) (N : Nat → Nat) (sz : Nat) (a0 : Int32) (a1 : Int32) (hwm : WM J) (hk : 0 ≤ (J 13 68).toInt ∧ (J 13 68).toInt ≤ 40) : Met l yX12_isEnough (WS yX12_isEnough cX12_isEnough 5 (some .boolean)) (RM (1) 0 0) (PC g [.ref (g.2.2.1 13), .int a0, .int a1] ((J, L, I, P, E, N), sgM g) sz) (va_Qi (fun (r : Int32) (u : Unit) => (((r.toInt : Int) = 1 ∧ a1.toInt ≤ ((CNT (fun i => ¬ (J 167 i &&& a0).toInt = 0) (J 13 68).toInt.toNat : Nat) : Int)) ∨ ((r.toInt : Int) = 0 ∧ ¬ a1.toInt ≤ ((CNT (fun i => ¬ (J 167 i &&& a0).toInt = 0) (J 13 68).toInt.toNat : Nat) : Int)))) (fun u t => at_ g (FR g ((J, L, I, P, E, N), sgM g) sz) ((J, L, I, P, E, N), sgM g) t) (FR g ((J, L, I, P, E, N), sgM g) sz)) 0 0 (FR g ((J, L, I, P, E, N), sgM g) sz) := by
  refine ent (by decide +kernel) (Nat.le_of_ble_eq_true rfl) ?_
  intro p e s m below meth c ls hsz C hW hr hlocks hname hl
  generalize FR g ((J, L, I, P, E, N), sgM g) sz = A at C hW ⊢
  generalize hQ9 : (va_Qi (fun (r : Int32) (u : Unit) => (((r.toInt : Int) = 1 ∧ a1.toInt ≤ ((CNT (fun i => ¬ (J 167 i &&& a0).toInt = 0) (J 13 68).toInt.toNat : Nat) : Int)) ∨ ((r.toInt : Int) = 0 ∧ ¬ a1.toInt ≤ ((CNT (fun i => ¬ (J 167 i &&& a0).toInt = 0) (J 13 68).toInt.toNat : Nat) : Int)))) (fun u t => at_ g A ((J, L, I, P, E, N), sgM g) t) A) = Q9
  have hx := C.1.1
  have hb := C.1.2.1
  have hts := C.1.2.2.2.2
  have hW : WB g A s.heap s.heap [] (J, L, I, P, E, N) (sgM g) := hW
  have hl : lv_has ls 5 [(0, .ref (g.2.2.1 13)), (1, .int a0), (2, .int a1)] := hl
  obtain ⟨H, hH⟩ : ∃ H : Heap, H = s.heap := ⟨_, rfl⟩
  obtain ⟨locs, hlocs⟩ : ∃ q : List Loc, q = [] := ⟨_, rfl⟩
  have hW : WB g A s.heap H locs (J, L, I, P, E, N) (sgM g) := by rw [hH, hlocs]; exact hW
  obtain ⟨⟨hnd1, hnd2, hon, hhm1, hhm2, hhN, hcu1, hcu2, hco1, hco2, hcN⟩, ⟨hrd1, hrd2⟩, ⟨hnw1, hnw2, hns1, hns2, hof⟩, ⟨htm1, htm2, hts_⟩, ⟨had1, had2, hrw1, hrw2, htp1, htp2⟩⟩ := id hwm
  refine start_ hH hlocs ?_
  refine lv_iconst (v := 0) hx hb dX12_isEnough_0 (by decide) ?_
  refine lv_istore_n (lv' := [(3, .int 0), (0, .ref (g.2.2.1 13)), (1, .int a0), (2, .int a1)]) hx hb dX12_isEnough_1 rfl hl (by decide) rfl (fun ls hl => ?_)
  refine lv_iconst (v := 0) hx hb dX12_isEnough_2 (by decide) ?_
  refine lv_istore (lv' := [(4, .int 0), (3, .int 0), (0, .ref (g.2.2.1 13)), (1, .int a0), (2, .int a1)]) hx hb dX12_isEnough_3 hl (by decide) rfl (fun ls hl => ?_)
  have loop5 : ∀ (n : Nat) (m3 : Int32) (m4 : Int32) (H : Heap) (locs : List Loc) (ls : Array Slot), (40 - m4.toInt).toNat < n → 0 ≤ m4.toInt ∧ m4.toInt ≤ (J 13 68).toInt ∧ 0 ≤ m3.toInt ∧ m3.toInt ≤ m4.toInt → m3.toInt = ((CNT (fun i => ¬ (J 167 i &&& a0).toInt = 0) m4.toInt.toNat : Nat) : Int) → WB g A s.heap H locs (J, L, I, P, E, N) (sgM g) → lv_has ls 5 [(4, .int m4), (3, .int m3), (0, .ref (g.2.2.1 13)), (1, .int a0), (2, .int a1)] → W p l e (RM (1) 0 0) s m ([.ref (g.2.2.1 13), .int a0, .int a1] : List Value).toArray below meth c H locs 0 0 (MQ below Q9 ([.ref (g.2.2.1 13), .int a0, .int a1] : List Value).toArray s 0 0 A) (F0 m 5 ls []) := by
    intro n
    induction n with
    | zero => intro m3 m4 H locs ls hmeas; exact absurd hmeas (Nat.not_lt_zero _)
    | succ n ih =>
      intro m3 m4 H locs ls hmeas hi hn hW hl
      refine lv_iload hx hb dX12_isEnough_5 (lv_at hl 0 rfl) ?_
      refine lv_aload_n hx hb dX12_isEnough_7 rfl (lv_at hl 2 rfl) ?_
      refine rg_13_68 C hW (mm_ rfl) tw_1091 dX12_isEnough_8 ?_
      refine lv_icmp_ge (tgt := 40) hx hb dX12_isEnough_11 (by decide) (fun c1 => ?_) (fun c1 => ?_)
      · have c1 : (J 13 68).toInt ≤ m4.toInt := tle rfl rfl c1
        refine lv_iload_n hx hb dX12_isEnough_40 rfl (lv_at hl 1 rfl) ?_
        refine lv_iload_n hx hb dX12_isEnough_41 rfl (lv_at hl 4 rfl) ?_
        refine lv_icmp_lt (tgt := 49) hx hb dX12_isEnough_42 (by decide) (fun c2 => ?_) (fun c2 => ?_)
        · have c2 : m3.toInt < a1.toInt := tlt rfl rfl c2
          refine lv_iconst (v := 0) hx hb dX12_isEnough_49 (by decide) ?_
          subst hQ9
          exact end_z C hr hlocks (by decide) () hW (show ((0 : Int) = 1 ∧ a1.toInt ≤ ((CNT (fun i => ¬ (J 167 i &&& a0).toInt = 0) (J 13 68).toInt.toNat : Nat) : Int)) ∨ ((0 : Int) = 0 ∧ ¬ a1.toInt ≤ ((CNT (fun i => ¬ (J 167 i &&& a0).toInt = 0) (J 13 68).toInt.toNat : Nat) : Int)) from by (have e9 : m4.toInt = (J 13 68).toInt := (by omega); rw [e9] at hn; first | exact Or.inl ⟨rfl, by omega⟩ | exact Or.inr ⟨rfl, by omega⟩)) dX12_isEnough_50
        · have c2 : a1.toInt ≤ m3.toInt := tnlt rfl rfl c2
          refine lv_iconst (v := 1) hx hb dX12_isEnough_45 (by decide) ?_
          refine lv_goto (tgt := 50) hx hb dX12_isEnough_46 (by decide) ?_
          subst hQ9
          exact end_z C hr hlocks (by decide) () hW (show ((1 : Int) = 1 ∧ a1.toInt ≤ ((CNT (fun i => ¬ (J 167 i &&& a0).toInt = 0) (J 13 68).toInt.toNat : Nat) : Int)) ∨ ((1 : Int) = 0 ∧ ¬ a1.toInt ≤ ((CNT (fun i => ¬ (J 167 i &&& a0).toInt = 0) (J 13 68).toInt.toNat : Nat) : Int)) from by (have e9 : m4.toInt = (J 13 68).toInt := (by omega); rw [e9] at hn; first | exact Or.inl ⟨rfl, by omega⟩ | exact Or.inr ⟨rfl, by omega⟩)) dX12_isEnough_50
      · have c1 : m4.toInt < (J 13 68).toInt := tnle rfl rfl c1
        refine lv_iload_n hx hb dX12_isEnough_14 rfl (lv_at hl 1 rfl) ?_
        refine lv_aload_n hx hb dX12_isEnough_15 rfl (lv_at hl 2 rfl) ?_
        refine rg_13_67 C hW (mm_ rfl) tw_1090 dX12_isEnough_16 ?_
        refine lv_iload hx hb dX12_isEnough_19 (lv_at hl 0 rfl) ?_
        have hin : vp_in m4 40 := tin rfl (by omega)
        refine ra_167 C hW (mm_ rfl) hin dX12_isEnough_21 ?_
        refine lv_topi (fun x3 (e3 : x3 = J 167 m4.toNatClampNeg) => ?_)
        refine lv_iload_n hx hb dX12_isEnough_22 rfl (lv_at hl 3 rfl) ?_
        refine lv_iand hx hb dX12_isEnough_23 ?_
        refine lv_topi (fun x4 (e4 : x4 = x3 &&& a0) => ?_)
        refine lv_if_eq (tgt := 31) hx hb dX12_isEnough_24 (by decide) (fun c5 => ?_) (fun c5 => ?_)
        · have c5 : x4.toInt = 0 := teq rfl kp0 c5
          refine lv_iconst (v := 0) hx hb dX12_isEnough_31 (by decide) ?_
          refine lv_iadd hx hb dX12_isEnough_32 ?_
          refine lv_topi (fun x6 (e6 : x6 = m3 + 0) => ?_)
          try have t6 : x6.toInt = m3.toInt + 0 := tadd e6 rfl kp0 (by omega)
          refine lv_istore_n (lv' := [(3, .int x6), (4, .int m4), (0, .ref (g.2.2.1 13)), (1, .int a0), (2, .int a1)]) hx hb dX12_isEnough_33 rfl hl (by decide) rfl (fun ls hl => ?_)
          obtain ⟨x7, e7⟩ : ∃ y : Int32, y = m4 + 1 := ⟨_, rfl⟩
          refine lv_iinc (v := x7) (lv' := [(4, .int x7), (3, .int x6), (0, .ref (g.2.2.1 13)), (1, .int a0), (2, .int a1)]) hx hb dX12_isEnough_34 hl (k := 1) rfl (by rw [e7]; rfl) (by decide) rfl (fun ls hl => ?_)
          try have t7 : x7.toInt = m4.toInt + 1 := tadd e7 rfl kp1 (by omega)
          refine lv_goto (tgt := 5) hx hb dX12_isEnough_37 (by decide) ?_
          refine ih x6 x7 H locs ls ?_ ?_ ?_ hW (lv_sub hl [0, 1, 2, 3, 4] rfl)
          · show (40 - x7.toInt).toNat < n
            omega
          · show 0 ≤ x7.toInt ∧ x7.toInt ≤ (J 13 68).toInt ∧ 0 ≤ x6.toInt ∧ x6.toInt ≤ x7.toInt
            first | omega | exact hi | assumption
          · show x6.toInt = ((CNT (fun i => ¬ (J 167 i &&& a0).toInt = 0) x7.toInt.toNat : Nat) : Int)
            have e9 := (show x4 = J 167 m4.toNatClampNeg &&& a0 from by rw [e4, e3]); first | exact cn_y hn (by omega) (by omega) (by show ¬ (J 167 m4.toNatClampNeg &&& a0).toInt = 0; rw [← e9]; omega) (by omega) | exact cn_n hn (by omega) (by omega) (fun q => by have q9 : ¬ (J 167 m4.toNatClampNeg &&& a0).toInt = 0 := q; rw [← e9] at q9; omega) (by omega)
        · have c5 : ¬ x4.toInt = 0 := tne rfl kp0 c5
          refine lv_iconst (v := 1) hx hb dX12_isEnough_27 (by decide) ?_
          refine lv_goto (tgt := 32) hx hb dX12_isEnough_28 (by decide) ?_
          refine lv_iadd hx hb dX12_isEnough_32 ?_
          refine lv_topi (fun x8 (e8 : x8 = m3 + 1) => ?_)
          try have t8 : x8.toInt = m3.toInt + 1 := tadd e8 rfl kp1 (by omega)
          refine lv_istore_n (lv' := [(3, .int x8), (4, .int m4), (0, .ref (g.2.2.1 13)), (1, .int a0), (2, .int a1)]) hx hb dX12_isEnough_33 rfl hl (by decide) rfl (fun ls hl => ?_)
          obtain ⟨x9, e9⟩ : ∃ y : Int32, y = m4 + 1 := ⟨_, rfl⟩
          refine lv_iinc (v := x9) (lv' := [(4, .int x9), (3, .int x8), (0, .ref (g.2.2.1 13)), (1, .int a0), (2, .int a1)]) hx hb dX12_isEnough_34 hl (k := 1) rfl (by rw [e9]; rfl) (by decide) rfl (fun ls hl => ?_)
          try have t9 : x9.toInt = m4.toInt + 1 := tadd e9 rfl kp1 (by omega)
          refine lv_goto (tgt := 5) hx hb dX12_isEnough_37 (by decide) ?_
          refine ih x8 x9 H locs ls ?_ ?_ ?_ hW (lv_sub hl [0, 1, 2, 3, 4] rfl)
          · show (40 - x9.toInt).toNat < n
            omega
          · show 0 ≤ x9.toInt ∧ x9.toInt ≤ (J 13 68).toInt ∧ 0 ≤ x8.toInt ∧ x8.toInt ≤ x9.toInt
            first | omega | exact hi | assumption
          · show x8.toInt = ((CNT (fun i => ¬ (J 167 i &&& a0).toInt = 0) x9.toInt.toNat : Nat) : Int)
            have e9 := (show x4 = J 167 m4.toNatClampNeg &&& a0 from by rw [e4, e3]); first | exact cn_y hn (by omega) (by omega) (by show ¬ (J 167 m4.toNatClampNeg &&& a0).toInt = 0; rw [← e9]; omega) (by omega) | exact cn_n hn (by omega) (by omega) (fun q => by have q9 : ¬ (J 167 m4.toNatClampNeg &&& a0).toInt = 0 := q; rw [← e9] at q9; omega) (by omega)
  -- into the loop
  refine loop5 ((40 - (0 : Int32).toInt).toNat + 1) 0 0 H locs ls ?_ ?_ ?_ hW (lv_sub hl [0, 1, 2, 3, 4] rfl)
  · exact Nat.lt_succ_self _
  · show 0 ≤ (0 : Int32).toInt ∧ (0 : Int32).toInt ≤ (J 13 68).toInt ∧ 0 ≤ (0 : Int32).toInt ∧ (0 : Int32).toInt ≤ (0 : Int32).toInt
    try rw [kp0]
    try rw [kp0]
    first | omega | exact hi | assumption
  · show (0 : Int32).toInt = ((CNT (fun i => ¬ (J 167 i &&& a0).toInt = 0) (0 : Int32).toInt.toNat : Nat) : Int)
    try rw [kp0]
    try rw [kp0]
    rfl

set_option maxHeartbeats 4000000 in
set_option maxRecDepth 100000 in
theorem c_X12_rights_e (l : Launch) (g : gG) (J : Nat → Nat → Int32) (L : Nat → Nat → Int64) (I : Nat → Nat → Nat → Int32) (P : Nat → Nat → Nat → Option Nat) (E : Nat → Option Nat) (N : Nat → Nat) (sz : Nat) (a0 : Int32) (a1 : Int32) (a2 : Int32) (hwm : WM J) (hcac : CAC J) : Met l yX12_rights (WS yX12_rights cX12_rights 9 (some .int)) (RM (35) 0 0) (PC g [.ref (g.2.2.1 13), .int a0, .int a1, .int a2] ((J, L, I, P, E, N), sgM g) sz) (va_Qi (fun (r : Int32) (u : (Nat → Nat → Int32)) => ((r.toInt = (-1) ∧ (¬ (0 ≤ a0.toInt ∧ a0.toInt < (J 13 31).toInt))) ∨ (r.toInt = (-4) ∧ ((0 ≤ a0.toInt ∧ a0.toInt < (J 13 31).toInt) ∧ (a1.toInt < 0 ∨ a2.toInt < 1))) ∨ (r.toInt = (-6) ∧ ((0 ≤ a0.toInt ∧ a0.toInt < (J 13 31).toInt) ∧ 0 ≤ a1.toInt ∧ 1 ≤ a2.toInt ∧ (16777215 < a1.toInt ∨ 999 < a2.toInt))) ∨ (r.toInt = (-6) ∧ ((0 ≤ a0.toInt ∧ a0.toInt < (J 13 31).toInt) ∧ 0 ≤ a1.toInt ∧ a1.toInt ≤ 16777215 ∧ 1 ≤ a2.toInt ∧ a2.toInt ≤ 999 ∧ 12 < (CB (tN a1) 24 : Int))) ∨ (r = r ∧ ((0 ≤ a0.toInt ∧ a0.toInt < (J 13 31).toInt) ∧ 0 ≤ a1.toInt ∧ a1.toInt ≤ 16777215 ∧ 1 ≤ a2.toInt ∧ a2.toInt ≤ 999 ∧ (CB (tN a1) 24 : Int) ≤ 12) ∧ (∃ (w : Int32) (y y2 : Nat → Int32), (∃ s o d : Int32, ((J 116 a0.toNatClampNeg).toInt = 6 → s.toInt = 0 ∧ o.toInt = 0) ∧ (¬ (J 116 a0.toNatClampNeg).toInt = 6 → CAV J a0.toNatClampNeg s.toInt o.toInt) ∧ ((¬ (2 : Int) = 2 → d.toInt = 0) ∧ ((2 : Int) = 2 → d = o)) ∧ WVM (J 121) (J 122) (J 123) (J 124) (SCL (J 116 a0.toNatClampNeg) (hrw a0.toInt) (J 118 a0.toNatClampNeg) s o (J 120 a0.toNatClampNeg) (J 13 31 - a0) (J 13 35)) (J 13 40).toInt 2 a0.toInt d w) ∧ (¬ (J 116 a0.toNatClampNeg).toInt = 6 → SND y (J 101) (J 102) (J 103) (J 104) (fun k => 0 ≤ a0.toInt ∧ CUTP (J 105) (J 106) (J 107) (J 13 34).toInt a0.toInt k) (J 118 a0.toNatClampNeg) (J 120 a0.toNatClampNeg) (J 13 32).toInt) ∧ SND y2 (J 101) (J 102) (J 103) (J 104) (fun k => 0 ≤ (-1 : Int32).toInt ∧ CUTP (J 105) (J 106) (J 107) (J 13 34).toInt (-1 : Int32).toInt k) a2 (J 13 33) (J 13 32).toInt ∧ ((¬ w.toInt ≤ ((CNT (fun h => LSM (J 116 a0.toNatClampNeg) (J 110) (J 111) a0.toInt (J 13 36) (J 109) (J 108) y y2 h ∧ ¬ (J 110 h &&& a1).toInt = 0) (J 13 35).toInt.toNat : Nat) : Int) ∧ r.toInt = -9) ∨ (w.toInt ≤ ((CNT (fun h => LSM (J 116 a0.toNatClampNeg) (J 110) (J 111) a0.toInt (J 13 36) (J 109) (J 108) y y2 h ∧ ¬ (J 110 h &&& a1).toInt = 0) (J 13 35).toInt.toNat : Nat) : Int) ∧ r.toInt = (BSF (fun t => w.toInt ≤ ((CNT (fun h => LSM (J 116 a0.toNatClampNeg) (J 110) (J 111) a0.toInt (J 13 36) (J 109) (J 108) y y2 h ∧ ¬ (J 110 h &&& (SQ a1 t)).toInt = 0) (J 13 35).toInt.toNat : Nat) : Int)) (fun t => CB (tN (SQ a1 t)) 32) (fun t => (SQ a1 t).toInt) (2 ^ CB (tN a1) 24)).1))))) ∧ (CAC (hv J [100, 146, 150, 151, 152, 154, 165, 166, 167] [(13, 47), (13, 48), (13, 56), (13, 57), (13, 58), (13, 59), (13, 60), (13, 68)] u))) (fun u t => at_ g (FR g ((J, L, I, P, E, N), sgM g) sz) ((hv J [100, 146, 150, 151, 152, 154, 165, 166, 167] [(13, 47), (13, 48), (13, 56), (13, 57), (13, 58), (13, 59), (13, 60), (13, 68)] u, L, I, P, E, N), sgM g) t) (FR g ((J, L, I, P, E, N), sgM g) sz)) 0 0 (FR g ((J, L, I, P, E, N), sgM g) sz) := by
  refine ent (by decide +kernel) (Nat.le_of_ble_eq_true rfl) ?_
  intro p e s m below meth c ls hsz C hW hr hlocks hname hl
  generalize FR g ((J, L, I, P, E, N), sgM g) sz = A at C hW ⊢
  generalize hQ9 : (va_Qi (fun (r : Int32) (u : (Nat → Nat → Int32)) => ((r.toInt = (-1) ∧ (¬ (0 ≤ a0.toInt ∧ a0.toInt < (J 13 31).toInt))) ∨ (r.toInt = (-4) ∧ ((0 ≤ a0.toInt ∧ a0.toInt < (J 13 31).toInt) ∧ (a1.toInt < 0 ∨ a2.toInt < 1))) ∨ (r.toInt = (-6) ∧ ((0 ≤ a0.toInt ∧ a0.toInt < (J 13 31).toInt) ∧ 0 ≤ a1.toInt ∧ 1 ≤ a2.toInt ∧ (16777215 < a1.toInt ∨ 999 < a2.toInt))) ∨ (r.toInt = (-6) ∧ ((0 ≤ a0.toInt ∧ a0.toInt < (J 13 31).toInt) ∧ 0 ≤ a1.toInt ∧ a1.toInt ≤ 16777215 ∧ 1 ≤ a2.toInt ∧ a2.toInt ≤ 999 ∧ 12 < (CB (tN a1) 24 : Int))) ∨ (r = r ∧ ((0 ≤ a0.toInt ∧ a0.toInt < (J 13 31).toInt) ∧ 0 ≤ a1.toInt ∧ a1.toInt ≤ 16777215 ∧ 1 ≤ a2.toInt ∧ a2.toInt ≤ 999 ∧ (CB (tN a1) 24 : Int) ≤ 12) ∧ (∃ (w : Int32) (y y2 : Nat → Int32), (∃ s o d : Int32, ((J 116 a0.toNatClampNeg).toInt = 6 → s.toInt = 0 ∧ o.toInt = 0) ∧ (¬ (J 116 a0.toNatClampNeg).toInt = 6 → CAV J a0.toNatClampNeg s.toInt o.toInt) ∧ ((¬ (2 : Int) = 2 → d.toInt = 0) ∧ ((2 : Int) = 2 → d = o)) ∧ WVM (J 121) (J 122) (J 123) (J 124) (SCL (J 116 a0.toNatClampNeg) (hrw a0.toInt) (J 118 a0.toNatClampNeg) s o (J 120 a0.toNatClampNeg) (J 13 31 - a0) (J 13 35)) (J 13 40).toInt 2 a0.toInt d w) ∧ (¬ (J 116 a0.toNatClampNeg).toInt = 6 → SND y (J 101) (J 102) (J 103) (J 104) (fun k => 0 ≤ a0.toInt ∧ CUTP (J 105) (J 106) (J 107) (J 13 34).toInt a0.toInt k) (J 118 a0.toNatClampNeg) (J 120 a0.toNatClampNeg) (J 13 32).toInt) ∧ SND y2 (J 101) (J 102) (J 103) (J 104) (fun k => 0 ≤ (-1 : Int32).toInt ∧ CUTP (J 105) (J 106) (J 107) (J 13 34).toInt (-1 : Int32).toInt k) a2 (J 13 33) (J 13 32).toInt ∧ ((¬ w.toInt ≤ ((CNT (fun h => LSM (J 116 a0.toNatClampNeg) (J 110) (J 111) a0.toInt (J 13 36) (J 109) (J 108) y y2 h ∧ ¬ (J 110 h &&& a1).toInt = 0) (J 13 35).toInt.toNat : Nat) : Int) ∧ r.toInt = -9) ∨ (w.toInt ≤ ((CNT (fun h => LSM (J 116 a0.toNatClampNeg) (J 110) (J 111) a0.toInt (J 13 36) (J 109) (J 108) y y2 h ∧ ¬ (J 110 h &&& a1).toInt = 0) (J 13 35).toInt.toNat : Nat) : Int) ∧ r.toInt = (BSF (fun t => w.toInt ≤ ((CNT (fun h => LSM (J 116 a0.toNatClampNeg) (J 110) (J 111) a0.toInt (J 13 36) (J 109) (J 108) y y2 h ∧ ¬ (J 110 h &&& (SQ a1 t)).toInt = 0) (J 13 35).toInt.toNat : Nat) : Int)) (fun t => CB (tN (SQ a1 t)) 32) (fun t => (SQ a1 t).toInt) (2 ^ CB (tN a1) 24)).1))))) ∧ (CAC (hv J [100, 146, 150, 151, 152, 154, 165, 166, 167] [(13, 47), (13, 48), (13, 56), (13, 57), (13, 58), (13, 59), (13, 60), (13, 68)] u))) (fun u t => at_ g A ((hv J [100, 146, 150, 151, 152, 154, 165, 166, 167] [(13, 47), (13, 48), (13, 56), (13, 57), (13, 58), (13, 59), (13, 60), (13, 68)] u, L, I, P, E, N), sgM g) t) A) = Q9
  have hx := C.1.1
  have hb := C.1.2.1
  have hts := C.1.2.2.2.2
  have hW : WB g A s.heap s.heap [] (J, L, I, P, E, N) (sgM g) := hW
  have hl : lv_has ls 9 [(0, .ref (g.2.2.1 13)), (1, .int a0), (2, .int a1), (3, .int a2)] := hl
  obtain ⟨H, hH⟩ : ∃ H : Heap, H = s.heap := ⟨_, rfl⟩
  obtain ⟨locs, hlocs⟩ : ∃ q : List Loc, q = [] := ⟨_, rfl⟩
  have hW : WB g A s.heap H locs (J, L, I, P, E, N) (sgM g) := by rw [hH, hlocs]; exact hW
  obtain ⟨⟨hnd1, hnd2, hon, hhm1, hhm2, hhN, hcu1, hcu2, hco1, hco2, hcN⟩, ⟨hrd1, hrd2⟩, ⟨hnw1, hnw2, hns1, hns2, hof⟩, ⟨htm1, htm2, hts_⟩, ⟨had1, had2, hrw1, hrw2, htp1, htp2⟩⟩ := id hwm
  refine start_ hH hlocs ?_
  refine lv_aload_n hx hb dX12_rights_0 rfl (lv_at hl 0 rfl) ?_
  refine lv_iload_n hx hb dX12_rights_1 rfl (lv_at hl 1 rfl) ?_
  refine lv_iload_n hx hb dX12_rights_2 rfl (lv_at hl 2 rfl) ?_
  refine lv_iload_n hx hb dX12_rights_3 rfl (lv_at hl 3 rfl) ?_
  refine ci_ C hW (runV (x := (g.2.2.1 13)) (As := [.int a0, .int a1, .int a2]) (rest := []) (T := ((J, L, I, P, E, N), sgM g)) C hW (c_X12_wrongHours_e l g J L I P E N H.size a0 a1 a2 hwm) mi_X12_wrongHours tw_1479 (recv_ (T := ((J, L, I, P, E, N), sgM g)) C hW (mm_ rfl) rfl rfl) ⟨rfl, rfl, Nat.le_of_ble_eq_true rfl, Nat.le_of_ble_eq_true rfl⟩ rfl hl.1 rfl (Nat.le_of_ble_eq_true rfl) dX12_rights_4 ⟨Nat.le_of_ble_eq_true rfl, Nat.le_of_ble_eq_true rfl⟩) (fun r1 u1 H locs hp1 hW => ?_)
  have hc1 : ((r1.toInt = (-1) ∧ (¬ (0 ≤ a0.toInt ∧ a0.toInt < (J 13 31).toInt))) ∨ (r1.toInt = (-4) ∧ ((0 ≤ a0.toInt ∧ a0.toInt < (J 13 31).toInt) ∧ (a1.toInt < 0 ∨ a2.toInt < 1))) ∨ (r1.toInt = (-6) ∧ ((0 ≤ a0.toInt ∧ a0.toInt < (J 13 31).toInt) ∧ 0 ≤ a1.toInt ∧ 1 ≤ a2.toInt ∧ (16777215 < a1.toInt ∨ 999 < a2.toInt))) ∨ (r1.toInt = 0 ∧ ((0 ≤ a0.toInt ∧ a0.toInt < (J 13 31).toInt) ∧ 0 ≤ a1.toInt ∧ a1.toInt ≤ 16777215 ∧ 1 ≤ a2.toInt ∧ a2.toInt ≤ 999))) := hp1
  clear hp1
  have hW : WB g A s.heap H locs (J, L, I, P, E, N) (sgM g) := hW
  refine lv_istore (lv' := [(4, .int r1), (0, .ref (g.2.2.1 13)), (1, .int a0), (2, .int a1), (3, .int a2)]) hx hb dX12_rights_7 hl (by decide) rfl (fun ls hl => ?_)
  refine lv_iload hx hb dX12_rights_9 (lv_at hl 0 rfl) ?_
  refine lv_if_ne (tgt := 27) hx hb dX12_rights_11 (by decide) (fun c2 => ?_) (fun c2 => ?_)
  · have c2 : ¬ r1.toInt = 0 := tne rfl kp0 c2
    refine lv_iload hx hb dX12_rights_27 (lv_at hl 0 rfl) ?_
    refine lv_if_eq (tgt := 39) hx hb dX12_rights_29 (by decide) (fun c3 => ?_) (fun c3 => ?_)
    · have c3 : r1.toInt = 0 := teq rfl kp0 c3
      exfalso; omega
    · have c3 : ¬ r1.toInt = 0 := tne rfl kp0 c3
      refine lv_aload_n hx hb dX12_rights_32 rfl (lv_at hl 1 rfl) ?_
      refine lv_iload hx hb dX12_rights_33 (lv_at hl 0 rfl) ?_
      refine ci_ C hW (runV (x := (g.2.2.1 13)) (As := [.int r1]) (rest := []) (T := ((J, L, I, P, E, N), sgM g)) C hW (c_X12_refuse l g J L I P E N H.size r1 (show -6 ≤ r1.toInt ∧ r1.toInt ≤ -1 from by omega)) mi_X12_refuse tw_1239 (recv_ (T := ((J, L, I, P, E, N), sgM g)) C hW (mm_ rfl) rfl rfl) ⟨rfl, rfl, Nat.le_of_ble_eq_true rfl, Nat.le_of_ble_eq_true rfl⟩ rfl hl.1 rfl (Nat.le_of_ble_eq_true rfl) dX12_rights_35 ⟨Nat.le_of_ble_eq_true rfl, Nat.le_of_ble_eq_true rfl⟩) (fun r4 u4 H locs hp4 hW => ?_)
      have hc4 : ((r4 = r1)) := hp4
      clear hp4
      have hr4 : r4.toInt = (r1).toInt := by rw [hc4]
      have hW : WB g A s.heap H locs ((hv J [100] [] u4), L, I, P, E, N) (sgM g) := hW
      have hWr : WB g A s.heap H locs (hv J [100, 146, 150, 151, 152, 154, 165, 166, 167] [(13, 47), (13, 48), (13, 56), (13, 57), (13, 58), (13, 59), (13, 60), (13, 68)] (hv J [100] [] u4), L, I, P, E, N) (sgM g) := by
        rw [← ag_hvE (J := J) (R := [100, 146, 150, 151, 152, 154, 165, 166, 167]) (F := [(13, 47), (13, 48), (13, 56), (13, 57), (13, 58), (13, 59), (13, 60), (13, 68)]) (ag_hv rfl rfl ag_rf)]
        exact hW
      subst hQ9
      exact end_i C hr hlocks (hv J [100] [] u4) hWr ⟨by first | exact Or.inl ⟨by omega, by omega⟩ | exact Or.inr (Or.inl ⟨by omega, by omega⟩) | exact Or.inr (Or.inr (Or.inl ⟨by omega, by omega⟩)) | exact Or.inr (Or.inr (Or.inr (Or.inl ⟨by omega, by omega⟩))) | (rcases hc1 with qhc1 | qhc1 | qhc1 | qhc1 <;> first | exact Or.inl ⟨by omega, by omega⟩ | exact Or.inr (Or.inl ⟨by omega, by omega⟩) | exact Or.inr (Or.inr (Or.inl ⟨by omega, by omega⟩)) | exact Or.inr (Or.inr (Or.inr (Or.inl ⟨by omega, by omega⟩))) | (exfalso; omega)), show CAC (hv J [100, 146, 150, 151, 152, 154, 165, 166, 167] [(13, 47), (13, 48), (13, 56), (13, 57), (13, 58), (13, 59), (13, 60), (13, 68)] (hv J [100] [] u4)) from by rw [← ag_hvE (J := J) (R := [100, 146, 150, 151, 152, 154, 165, 166, 167]) (F := [(13, 47), (13, 48), (13, 56), (13, 57), (13, 58), (13, 59), (13, 60), (13, 68)]) (ag_hv rfl rfl ag_rf)]; exact cac_e (J := J) ⟨rfl, rfl, rfl, rfl, rfl, rfl, rfl, rfl, rfl, rfl, rfl, rfl, rfl, rfl, rfl, rfl, rfl, rfl, rfl, rfl⟩ rfl rfl rfl hcac⟩ dX12_rights_38
  · have c2 : r1.toInt = 0 := teq rfl kp0 c2
    refine lv_iload_n hx hb dX12_rights_14 rfl (lv_at hl 3 rfl) ?_
    refine ci_ C hW (runS (As := [.int a1]) (rest := []) (T := ((J, L, I, P, E, N), sgM g)) C hW (c_X12_bits_e l g J L I P E N H.size a1 (show 0 ≤ a1.toInt from (by omega))) mi_X12_bits tw_1460 ⟨rfl, rfl, Nat.le_of_ble_eq_true rfl, Nat.le_of_ble_eq_true rfl⟩ rfl hl.1 rfl (Nat.le_of_ble_eq_true rfl) dX12_rights_15 ⟨Nat.le_of_ble_eq_true rfl, Nat.le_of_ble_eq_true rfl⟩) (fun r5 u5 H locs hp5 hW => ?_)
    have hf5_0 : (r5.toInt = ((CB (tN a1) 32 : Nat) : Int)) := hp5
    clear hp5
    have hW : WB g A s.heap H locs (J, L, I, P, E, N) (sgM g) := hW
    have hh24 : tN a1 < 2 ^ 24 := (by have h8 := tN_i (a := a1) (by omega); omega)
    have hBK0 := hf5_0
    rw [cb_pow hh24 32 (by decide)] at hBK0
    refine lv_bipush (v := 12) hx hb dX12_rights_18 (by decide) ?_
    refine lv_icmp_le (tgt := 27) hx hb dX12_rights_20 (by decide) (fun c6 => ?_) (fun c6 => ?_)
    · have c6 : r5.toInt ≤ 12 := tle rfl kp12 c6
      refine lv_iload hx hb dX12_rights_27 (lv_at hl 0 rfl) ?_
      refine lv_if_eq (tgt := 39) hx hb dX12_rights_29 (by decide) (fun c7 => ?_) (fun c7 => ?_)
      · have c7 : r1.toInt = 0 := teq rfl kp0 c7
        refine lv_aload_n hx hb dX12_rights_39 rfl (lv_at hl 1 rfl) ?_
        refine lv_iconst (v := 2) hx hb dX12_rights_40 (by decide) ?_
        refine lv_iload_n hx hb dX12_rights_41 rfl (lv_at hl 2 rfl) ?_
        refine ci_ C hW (runV (x := (g.2.2.1 13)) (As := [.int 2, .int a0]) (rest := []) (T := ((J, L, I, P, E, N), sgM g)) C hW (c_X12_worthOf_e l g J L I P E N H.size 2 a0 hwm (show 0 ≤ a0.toInt ∧ a0.toInt < (J 13 31).toInt from (by (try simp only [kp2]); omega)) (show CAC J from hcac)) mi_X12_worthOf tw_1424 (recv_ (T := ((J, L, I, P, E, N), sgM g)) C hW (mm_ rfl) rfl rfl) ⟨rfl, rfl, Nat.le_of_ble_eq_true rfl, Nat.le_of_ble_eq_true rfl⟩ rfl hl.1 rfl (Nat.le_of_ble_eq_true rfl) dX12_rights_42 ⟨Nat.le_of_ble_eq_true rfl, Nat.le_of_ble_eq_true rfl⟩) (fun r8 u8 H locs hp8 hW => ?_)
        obtain ⟨hf8_0, hf8_1⟩ : (∃ s o d : Int32, ((J 116 a0.toNatClampNeg).toInt = 6 → s.toInt = 0 ∧ o.toInt = 0) ∧ (¬ (J 116 a0.toNatClampNeg).toInt = 6 → CAV J a0.toNatClampNeg s.toInt o.toInt) ∧ ((¬ (2 : Int) = 2 → d.toInt = 0) ∧ ((2 : Int) = 2 → d = o)) ∧ WVM (J 121) (J 122) (J 123) (J 124) (SCL (J 116 a0.toNatClampNeg) (hrw a0.toInt) (J 118 a0.toNatClampNeg) s o (J 120 a0.toNatClampNeg) (J 13 31 - a0) (J 13 35)) (J 13 40).toInt 2 a0.toInt d r8) ∧ (CAC (hv J [146, 150, 151, 152, 154] [(13, 47), (13, 48), (13, 56), (13, 57), (13, 58), (13, 59), (13, 60)] u8)) := hp8
        have hW : WB g A s.heap H locs ((hv J [146, 150, 151, 152, 154] [(13, 47), (13, 48), (13, 56), (13, 57), (13, 58), (13, 59), (13, 60)] u8), L, I, P, E, N) (sgM g) := hW
        have hh24 : tN a1 < 2 ^ 24 := (by have h8 := tN_i (a := a1) (by omega); omega)
        have hWO := hf8_0
        have hCC := hf8_1
        refine lv_istore (lv' := [(5, .int r8), (4, .int r1), (0, .ref (g.2.2.1 13)), (1, .int a0), (2, .int a1), (3, .int a2)]) hx hb dX12_rights_45 hl (by decide) rfl (fun ls hl => ?_)
        refine lv_aload_n hx hb dX12_rights_47 rfl (lv_at hl 2 rfl) ?_
        refine lv_iload_n hx hb dX12_rights_48 rfl (lv_at hl 3 rfl) ?_
        refine lv_iload_n hx hb dX12_rights_49 rfl (lv_at hl 5 rfl) ?_
        refine cv_ C hW (runV (x := (g.2.2.1 13)) (As := [.int a0, .int a2]) (rest := []) (T := (((hv J [146, 150, 151, 152, 154] [(13, 47), (13, 48), (13, 56), (13, 57), (13, 58), (13, 59), (13, 60)] u8), L, I, P, E, N), sgM g)) C hW (c_X12_asks_e l g (hv J [146, 150, 151, 152, 154] [(13, 47), (13, 48), (13, 56), (13, 57), (13, 58), (13, 59), (13, 60)] u8) L I P E N H.size a0 a2 hwm (show 0 ≤ a0.toInt ∧ a0.toInt < 10000 from by omega)) mi_X12_asks tw_1483 (recv_ (T := (((hv J [146, 150, 151, 152, 154] [(13, 47), (13, 48), (13, 56), (13, 57), (13, 58), (13, 59), (13, 60)] u8), L, I, P, E, N), sgM g)) C hW (mm_ rfl) rfl rfl) ⟨rfl, rfl, Nat.le_of_ble_eq_true rfl, Nat.le_of_ble_eq_true rfl⟩ rfl hl.1 rfl (Nat.le_of_ble_eq_true rfl) dX12_rights_50 ⟨Nat.le_of_ble_eq_true rfl, Nat.le_of_ble_eq_true rfl⟩) (fun u9 H locs hp9 hW => ?_)
        have hf9_0 : (∃ y y2 : Nat → Int32, (¬ (J 116 a0.toNatClampNeg).toInt = 6 → SND y (J 101) (J 102) (J 103) (J 104) (fun k => 0 ≤ a0.toInt ∧ CUTP (J 105) (J 106) (J 107) (J 13 34).toInt a0.toInt k) (J 118 a0.toNatClampNeg) (J 120 a0.toNatClampNeg) (J 13 32).toInt) ∧ SND y2 (J 101) (J 102) (J 103) (J 104) (fun k => 0 ≤ (-1 : Int32).toInt ∧ CUTP (J 105) (J 106) (J 107) (J 13 34).toInt (-1 : Int32).toInt k) a2 (J 13 33) (J 13 32).toInt ∧ (∀ h : Nat, (h : Int) < (J 13 35).toInt → (¬ (u9 165 h).toInt = 0 ↔ 0 < (HFM (J 116 a0.toNatClampNeg) (J 110) (J 111) a0.toInt (J 13 36) (J 109) (J 108) y) h)) ∧ ∀ h : Nat, (h : Int) < (J 13 35).toInt → (¬ (u9 166 h).toInt = 0 ↔ (J 13 36).toInt ≤ (y2 (J 108 h).toNatClampNeg / J 109 h).toInt)) := hp9
        clear hp9
        have hW : WB g A s.heap H locs ((hv (hv J [146, 150, 151, 152, 154] [(13, 47), (13, 48), (13, 56), (13, 57), (13, 58), (13, 59), (13, 60)] u8) [146, 165, 166] [] u9), L, I, P, E, N) (sgM g) := hW
        have hAS := hf9_0
        refine lv_aload_n hx hb dX12_rights_53 rfl (lv_at hl 2 rfl) ?_
        refine cv_ C hW (runV (x := (g.2.2.1 13)) (As := []) (rest := []) (T := (((hv (hv J [146, 150, 151, 152, 154] [(13, 47), (13, 48), (13, 56), (13, 57), (13, 58), (13, 59), (13, 60)] u8) [146, 165, 166] [] u9), L, I, P, E, N), sgM g)) C hW (c_X12_counting_e l g (hv (hv J [146, 150, 151, 152, 154] [(13, 47), (13, 48), (13, 56), (13, 57), (13, 58), (13, 59), (13, 60)] u8) [146, 165, 166] [] u9) L I P E N H.size  hwm) mi_X12_counting tw_1495 (recv_ (T := (((hv (hv J [146, 150, 151, 152, 154] [(13, 47), (13, 48), (13, 56), (13, 57), (13, 58), (13, 59), (13, 60)] u8) [146, 165, 166] [] u9), L, I, P, E, N), sgM g)) C hW (mm_ rfl) rfl rfl) ⟨rfl, rfl, Nat.le_of_ble_eq_true rfl, Nat.le_of_ble_eq_true rfl⟩ rfl hl.1 rfl (Nat.le_of_ble_eq_true rfl) dX12_rights_54 ⟨Nat.le_of_ble_eq_true rfl, Nat.le_of_ble_eq_true rfl⟩) (fun u10 H locs hp10 hW => ?_)
        have hf10_0 : (CTG (u10 167) (J 110) (fun h => ¬ (u9 165 h).toInt = 0 ∧ ¬ (u9 166 h).toInt = 0) (u10 13 68).toInt (J 13 35).toInt ∧ 0 ≤ (u10 13 68).toInt ∧ (u10 13 68).toInt ≤ 40) := hp10
        clear hp10
        have hW : WB g A s.heap H locs ((hv (hv (hv J [146, 150, 151, 152, 154] [(13, 47), (13, 48), (13, 56), (13, 57), (13, 58), (13, 59), (13, 60)] u8) [146, 165, 166] [] u9) [167] [(13, 68)] u10), L, I, P, E, N) (sgM g) := hW
        have hCG := hf10_0
        refine lv_aload_n hx hb dX12_rights_57 rfl (lv_at hl 2 rfl) ?_
        refine lv_iload_n hx hb dX12_rights_58 rfl (lv_at hl 4 rfl) ?_
        refine lv_iload hx hb dX12_rights_59 (lv_at hl 0 rfl) ?_
        refine ci_ C hW (runV (x := (g.2.2.1 13)) (As := [.int a1, .int r8]) (rest := []) (T := (((hv (hv (hv J [146, 150, 151, 152, 154] [(13, 47), (13, 48), (13, 56), (13, 57), (13, 58), (13, 59), (13, 60)] u8) [146, 165, 166] [] u9) [167] [(13, 68)] u10), L, I, P, E, N), sgM g)) C hW (c_X12_isEnough_e l g (hv (hv (hv J [146, 150, 151, 152, 154] [(13, 47), (13, 48), (13, 56), (13, 57), (13, 58), (13, 59), (13, 60)] u8) [146, 165, 166] [] u9) [167] [(13, 68)] u10) L I P E N H.size a1 r8 hwm (show 0 ≤ (u10 13 68).toInt ∧ (u10 13 68).toInt ≤ 40 from hCG.2)) mi_X12_isEnough tw_1499 (recv_ (T := (((hv (hv (hv J [146, 150, 151, 152, 154] [(13, 47), (13, 48), (13, 56), (13, 57), (13, 58), (13, 59), (13, 60)] u8) [146, 165, 166] [] u9) [167] [(13, 68)] u10), L, I, P, E, N), sgM g)) C hW (mm_ rfl) rfl rfl) ⟨rfl, rfl, Nat.le_of_ble_eq_true rfl, Nat.le_of_ble_eq_true rfl⟩ rfl hl.1 rfl (Nat.le_of_ble_eq_true rfl) dX12_rights_61 ⟨Nat.le_of_ble_eq_true rfl, Nat.le_of_ble_eq_true rfl⟩) (fun r11 u11 H locs hp11 hW => ?_)
        have hf11_0 : (((r11.toInt : Int) = 1 ∧ r8.toInt ≤ ((CNT (fun i => ¬ (u10 167 i &&& a1).toInt = 0) (u10 13 68).toInt.toNat : Nat) : Int)) ∨ ((r11.toInt : Int) = 0 ∧ ¬ r8.toInt ≤ ((CNT (fun i => ¬ (u10 167 i &&& a1).toInt = 0) (u10 13 68).toInt.toNat : Nat) : Int))) := hp11
        clear hp11
        have hW : WB g A s.heap H locs ((hv (hv (hv J [146, 150, 151, 152, 154] [(13, 47), (13, 48), (13, 56), (13, 57), (13, 58), (13, 59), (13, 60)] u8) [146, 165, 166] [] u9) [167] [(13, 68)] u10), L, I, P, E, N) (sgM g) := hW
        have hEN := hf11_0
        refine lv_if_ne (tgt := 70) hx hb dX12_rights_64 (by decide) (fun c12 => ?_) (fun c12 => ?_)
        · have c12 : ¬ r11.toInt = 0 := tne rfl kp0 c12
          refine lv_bipush (v := (-9)) hx hb dX12_rights_70 (by decide) ?_
          refine lv_istore (lv' := [(6, .int (-9)), (5, .int r8), (4, .int r1), (0, .ref (g.2.2.1 13)), (1, .int a0), (2, .int a1), (3, .int a2)]) hx hb dX12_rights_72 hl (by decide) rfl (fun ls hl => ?_)
          refine lv_iconst (v := 0) hx hb dX12_rights_74 (by decide) ?_
          refine lv_istore (lv' := [(7, .int 0), (6, .int (-9)), (5, .int r8), (4, .int r1), (0, .ref (g.2.2.1 13)), (1, .int a0), (2, .int a1), (3, .int a2)]) hx hb dX12_rights_75 hl (by decide) rfl (fun ls hl => ?_)
          refine lv_iconst (v := 0) hx hb dX12_rights_77 (by decide) ?_
          refine lv_istore (lv' := [(8, .int 0), (7, .int 0), (6, .int (-9)), (5, .int r8), (4, .int r1), (0, .ref (g.2.2.1 13)), (1, .int a0), (2, .int a1), (3, .int a2)]) hx hb dX12_rights_78 hl (by decide) rfl (fun ls hl => ?_)
          have loop80 : ∀ (n : Nat) (m6 : Int32) (m7 : Int32) (m8 : Int32) (H : Heap) (locs : List Loc) (ls : Array Slot), (4097 - m8.toInt).toNat < n → 0 ≤ m8.toInt ∧ m8.toInt ≤ ((2 ^ CB (tN a1) 24 : Nat) : Int) → m7 = SQ a1 m8.toInt.toNat → RBS m6 (BSF (fun t => r8.toInt ≤ ((CNT (fun i => ¬ (u10 167 i &&& (SQ a1 t)).toInt = 0) (u10 13 68).toInt.toNat : Nat) : Int)) (fun t => CB (tN (SQ a1 t)) 32) (fun t => (SQ a1 t).toInt) m8.toInt.toNat) → WB g A s.heap H locs ((hv (hv (hv J [146, 150, 151, 152, 154] [(13, 47), (13, 48), (13, 56), (13, 57), (13, 58), (13, 59), (13, 60)] u8) [146, 165, 166] [] u9) [167] [(13, 68)] u10), L, I, P, E, N) (sgM g) → lv_has ls 9 [(8, .int m8), (7, .int m7), (6, .int m6), (5, .int r8), (4, .int r1), (0, .ref (g.2.2.1 13)), (1, .int a0), (2, .int a1), (3, .int a2)] → W p l e (RM (35) 0 0) s m ([.ref (g.2.2.1 13), .int a0, .int a1, .int a2] : List Value).toArray below meth c H locs 0 0 (MQ below Q9 ([.ref (g.2.2.1 13), .int a0, .int a1, .int a2] : List Value).toArray s 0 0 A) (F0 m 80 ls []) := by
            intro n
            induction n with
            | zero => intro m6 m7 m8 H locs ls hmeas; exact absurd hmeas (Nat.not_lt_zero _)
            | succ n ih =>
              intro m6 m7 m8 H locs ls hmeas hi hsq hbs hW hl
              refine lv_iload hx hb dX12_rights_80 (lv_at hl 0 rfl) ?_
              refine lv_iconst (v := 1) hx hb dX12_rights_82 (by decide) ?_
              refine lv_iload_n hx hb dX12_rights_83 rfl (lv_at hl 7 rfl) ?_
              refine ci_ C hW (runS (As := [.int a1]) (rest := [.int 1, .int m8]) (T := (((hv (hv (hv J [146, 150, 151, 152, 154] [(13, 47), (13, 48), (13, 56), (13, 57), (13, 58), (13, 59), (13, 60)] u8) [146, 165, 166] [] u9) [167] [(13, 68)] u10), L, I, P, E, N), sgM g)) C hW (c_X12_bits_e l g (hv (hv (hv J [146, 150, 151, 152, 154] [(13, 47), (13, 48), (13, 56), (13, 57), (13, 58), (13, 59), (13, 60)] u8) [146, 165, 166] [] u9) [167] [(13, 68)] u10) L I P E N H.size a1 (show 0 ≤ a1.toInt from (by omega))) mi_X12_bits tw_1460 ⟨rfl, rfl, Nat.le_of_ble_eq_true rfl, Nat.le_of_ble_eq_true rfl⟩ rfl hl.1 rfl (Nat.le_of_ble_eq_true rfl) dX12_rights_84 ⟨Nat.le_of_ble_eq_true rfl, Nat.le_of_ble_eq_true rfl⟩) (fun r13 u13 H locs hp13 hW => ?_)
              have hf13_0 : (r13.toInt = ((CB (tN a1) 32 : Nat) : Int)) := hp13
              clear hp13
              have hW : WB g A s.heap H locs ((hv (hv (hv J [146, 150, 151, 152, 154] [(13, 47), (13, 48), (13, 56), (13, 57), (13, 58), (13, 59), (13, 60)] u8) [146, 165, 166] [] u9) [167] [(13, 68)] u10), L, I, P, E, N) (sgM g) := hW
              have hBK := hf13_0
              refine lv_ishl hx hb dX12_rights_87 ?_
              refine lv_topi (fun x14 (e14 : x14 = 1 <<< (r13 &&& 31)) => ?_)
              have hP2 := shl_p (n := CB (tN a1) 24) (by rw [hBK, cb_pow hh24 32 (by decide)]) (by omega) e14
              have hpw := pow12 (c := CB (tN a1) 24) (by omega)
              refine lv_icmp_ge (tgt := 142) hx hb dX12_rights_88 (by decide) (fun c15 => ?_) (fun c15 => ?_)
              · have c15 : x14.toInt ≤ m8.toInt := tle rfl rfl c15
                refine lv_iload hx hb dX12_rights_142 (lv_at hl 2 rfl) ?_
                have hWr : WB g A s.heap H locs (hv J [100, 146, 150, 151, 152, 154, 165, 166, 167] [(13, 47), (13, 48), (13, 56), (13, 57), (13, 58), (13, 59), (13, 60), (13, 68)] (hv (hv (hv J [146, 150, 151, 152, 154] [(13, 47), (13, 48), (13, 56), (13, 57), (13, 58), (13, 59), (13, 60)] u8) [146, 165, 166] [] u9) [167] [(13, 68)] u10), L, I, P, E, N) (sgM g) := by
                  rw [← ag_hvE (J := J) (R := [100, 146, 150, 151, 152, 154, 165, 166, 167]) (F := [(13, 47), (13, 48), (13, 56), (13, 57), (13, 58), (13, 59), (13, 60), (13, 68)]) (ag_hv rfl rfl (ag_hv rfl rfl (ag_hv rfl rfl ag_rf)))]
                  exact hW
                subst hQ9
                exact end_i C hr hlocks (hv (hv (hv J [146, 150, 151, 152, 154] [(13, 47), (13, 48), (13, 56), (13, 57), (13, 58), (13, 59), (13, 60)] u8) [146, 165, 166] [] u9) [167] [(13, 68)] u10) hWr ⟨by first | exact Or.inr (Or.inr (Or.inr (Or.inr (⟨by first | rfl | assumption, by omega, show (∃ (w : Int32) (y y2 : Nat → Int32), (∃ s o d : Int32, ((J 116 a0.toNatClampNeg).toInt = 6 → s.toInt = 0 ∧ o.toInt = 0) ∧ (¬ (J 116 a0.toNatClampNeg).toInt = 6 → CAV J a0.toNatClampNeg s.toInt o.toInt) ∧ ((¬ (2 : Int) = 2 → d.toInt = 0) ∧ ((2 : Int) = 2 → d = o)) ∧ WVM (J 121) (J 122) (J 123) (J 124) (SCL (J 116 a0.toNatClampNeg) (hrw a0.toInt) (J 118 a0.toNatClampNeg) s o (J 120 a0.toNatClampNeg) (J 13 31 - a0) (J 13 35)) (J 13 40).toInt 2 a0.toInt d w) ∧ (¬ (J 116 a0.toNatClampNeg).toInt = 6 → SND y (J 101) (J 102) (J 103) (J 104) (fun k => 0 ≤ a0.toInt ∧ CUTP (J 105) (J 106) (J 107) (J 13 34).toInt a0.toInt k) (J 118 a0.toNatClampNeg) (J 120 a0.toNatClampNeg) (J 13 32).toInt) ∧ SND y2 (J 101) (J 102) (J 103) (J 104) (fun k => 0 ≤ (-1 : Int32).toInt ∧ CUTP (J 105) (J 106) (J 107) (J 13 34).toInt (-1 : Int32).toInt k) a2 (J 13 33) (J 13 32).toInt ∧ ((¬ w.toInt ≤ ((CNT (fun h => LSM (J 116 a0.toNatClampNeg) (J 110) (J 111) a0.toInt (J 13 36) (J 109) (J 108) y y2 h ∧ ¬ (J 110 h &&& a1).toInt = 0) (J 13 35).toInt.toNat : Nat) : Int) ∧ m6.toInt = -9) ∨ (w.toInt ≤ ((CNT (fun h => LSM (J 116 a0.toNatClampNeg) (J 110) (J 111) a0.toInt (J 13 36) (J 109) (J 108) y y2 h ∧ ¬ (J 110 h &&& a1).toInt = 0) (J 13 35).toInt.toNat : Nat) : Int) ∧ m6.toInt = (BSF (fun t => w.toInt ≤ ((CNT (fun h => LSM (J 116 a0.toNatClampNeg) (J 110) (J 111) a0.toInt (J 13 36) (J 109) (J 108) y y2 h ∧ ¬ (J 110 h &&& (SQ a1 t)).toInt = 0) (J 13 35).toInt.toNat : Nat) : Int)) (fun t => CB (tN (SQ a1 t)) 32) (fun t => (SQ a1 t).toInt) (2 ^ CB (tN a1) 24)).1))) from (by obtain ⟨y9, y8, h1, h2, h3, h4⟩ := hAS; have hCE := rt_cnt (w := r8.toInt) (a := a1) (sz := fun t => CB (tN (SQ a1 t)) 32) (v := fun t => (SQ a1 t).toInt) (T := 2 ^ CB (tN a1) 24) hCG h3 h4; have e8 : m8.toInt.toNat = 2 ^ CB (tN a1) 24 := (by omega); rw [e8] at hbs; exact ⟨_, y9, y8, hWO, h1, h2, Or.inr ⟨Int.le_trans (by omega) (Int.le_of_eq hCE.1), (rbs_r hbs).trans (congrArg Prod.fst hCE.2)⟩⟩)⟩)))), show CAC (hv J [100, 146, 150, 151, 152, 154, 165, 166, 167] [(13, 47), (13, 48), (13, 56), (13, 57), (13, 58), (13, 59), (13, 60), (13, 68)] (hv (hv (hv J [146, 150, 151, 152, 154] [(13, 47), (13, 48), (13, 56), (13, 57), (13, 58), (13, 59), (13, 60)] u8) [146, 165, 166] [] u9) [167] [(13, 68)] u10)) from by rw [← ag_hvE (J := J) (R := [100, 146, 150, 151, 152, 154, 165, 166, 167]) (F := [(13, 47), (13, 48), (13, 56), (13, 57), (13, 58), (13, 59), (13, 60), (13, 68)]) (ag_hv rfl rfl (ag_hv rfl rfl (ag_hv rfl rfl ag_rf)))]; exact cac_e (J := (hv J [146, 150, 151, 152, 154] [(13, 47), (13, 48), (13, 56), (13, 57), (13, 58), (13, 59), (13, 60)] u8)) ⟨rfl, rfl, rfl, rfl, rfl, rfl, rfl, rfl, rfl, rfl, rfl, rfl, rfl, rfl, rfl, rfl, rfl, rfl, rfl, rfl⟩ rfl rfl rfl hCC⟩ dX12_rights_144
              · have c15 : m8.toInt < x14.toInt := tnle rfl rfl c15
                refine lv_iload hx hb dX12_rights_91 (lv_at hl 2 rfl) ?_
                refine lv_if_lt (tgt := 109) hx hb dX12_rights_93 (by decide) (fun c16 => ?_) (fun c16 => ?_)
                · have c16 : m6.toInt < 0 := tlt rfl kp0 c16
                  refine lv_aload_n hx hb dX12_rights_109 rfl (lv_at hl 5 rfl) ?_
                  refine lv_iload hx hb dX12_rights_110 (lv_at hl 1 rfl) ?_
                  refine lv_iload hx hb dX12_rights_112 (lv_at hl 3 rfl) ?_
                  refine ci_ C hW (runV (x := (g.2.2.1 13)) (As := [.int m7, .int r8]) (rest := []) (T := (((hv (hv (hv J [146, 150, 151, 152, 154] [(13, 47), (13, 48), (13, 56), (13, 57), (13, 58), (13, 59), (13, 60)] u8) [146, 165, 166] [] u9) [167] [(13, 68)] u10), L, I, P, E, N), sgM g)) C hW (c_X12_isEnough_e l g (hv (hv (hv J [146, 150, 151, 152, 154] [(13, 47), (13, 48), (13, 56), (13, 57), (13, 58), (13, 59), (13, 60)] u8) [146, 165, 166] [] u9) [167] [(13, 68)] u10) L I P E N H.size m7 r8 hwm (show 0 ≤ (u10 13 68).toInt ∧ (u10 13 68).toInt ≤ 40 from hCG.2)) mi_X12_isEnough tw_1499 (recv_ (T := (((hv (hv (hv J [146, 150, 151, 152, 154] [(13, 47), (13, 48), (13, 56), (13, 57), (13, 58), (13, 59), (13, 60)] u8) [146, 165, 166] [] u9) [167] [(13, 68)] u10), L, I, P, E, N), sgM g)) C hW (mm_ rfl) rfl rfl) ⟨rfl, rfl, Nat.le_of_ble_eq_true rfl, Nat.le_of_ble_eq_true rfl⟩ rfl hl.1 rfl (Nat.le_of_ble_eq_true rfl) dX12_rights_114 ⟨Nat.le_of_ble_eq_true rfl, Nat.le_of_ble_eq_true rfl⟩) (fun r17 u17 H locs hp17 hW => ?_)
                  have hf17_0 : (((r17.toInt : Int) = 1 ∧ r8.toInt ≤ ((CNT (fun i => ¬ (u10 167 i &&& m7).toInt = 0) (u10 13 68).toInt.toNat : Nat) : Int)) ∨ ((r17.toInt : Int) = 0 ∧ ¬ r8.toInt ≤ ((CNT (fun i => ¬ (u10 167 i &&& m7).toInt = 0) (u10 13 68).toInt.toNat : Nat) : Int))) := hp17
                  clear hp17
                  have hW : WB g A s.heap H locs ((hv (hv (hv J [146, 150, 151, 152, 154] [(13, 47), (13, 48), (13, 56), (13, 57), (13, 58), (13, 59), (13, 60)] u8) [146, 165, 166] [] u9) [167] [(13, 68)] u10), L, I, P, E, N) (sgM g) := hW
                  have hEN2 := hf17_0
                  refine lv_if_eq (tgt := 124) hx hb dX12_rights_117 (by decide) (fun c18 => ?_) (fun c18 => ?_)
                  · have c18 : r17.toInt = 0 := teq rfl kp0 c18
                    refine lv_iload hx hb dX12_rights_124 (lv_at hl 1 rfl) ?_
                    refine lv_iload_n hx hb dX12_rights_126 rfl (lv_at hl 7 rfl) ?_
                    refine lv_iconst (v := (-1)) hx hb dX12_rights_127 (by decide) ?_
                    refine lv_ixor hx hb dX12_rights_128 ?_
                    refine lv_topi (fun x19 (e19 : x19 = a1 ^^^ (-1)) => ?_)
                    refine lv_ior hx hb dX12_rights_129 ?_
                    refine lv_topi (fun x20 (e20 : x20 = m7 ||| x19) => ?_)
                    refine lv_iconst (v := 1) hx hb dX12_rights_130 (by decide) ?_
                    refine lv_iadd hx hb dX12_rights_131 ?_
                    refine lv_topi (fun x21 (e21 : x21 = x20 + 1) => ?_)
                    refine lv_iload_n hx hb dX12_rights_132 rfl (lv_at hl 7 rfl) ?_
                    refine lv_iand hx hb dX12_rights_133 ?_
                    refine lv_topi (fun x22 (e22 : x22 = x21 &&& a1) => ?_)
                    refine lv_istore (lv' := [(7, .int x22), (8, .int m8), (6, .int m6), (5, .int r8), (4, .int r1), (0, .ref (g.2.2.1 13)), (1, .int a0), (2, .int a1), (3, .int a2)]) hx hb dX12_rights_134 hl (by decide) rfl (fun ls hl => ?_)
                    obtain ⟨x23, e23⟩ : ∃ y : Int32, y = m8 + 1 := ⟨_, rfl⟩
                    refine lv_iinc (v := x23) (lv' := [(8, .int x23), (7, .int x22), (6, .int m6), (5, .int r8), (4, .int r1), (0, .ref (g.2.2.1 13)), (1, .int a0), (2, .int a1), (3, .int a2)]) hx hb dX12_rights_136 hl (k := 1) rfl (by rw [e23]; rfl) (by decide) rfl (fun ls hl => ?_)
                    try have t23 : x23.toInt = m8.toInt + 1 := tadd e23 rfl kp1 (by omega)
                    refine lv_goto (tgt := 80) hx hb dX12_rights_139 (by decide) ?_
                    refine ih m6 x22 x23 H locs ls ?_ ?_ ?_ ?_ hW (lv_sub hl [0, 1, 2, 3, 4, 5, 6, 7, 8] rfl)
                    · show (4097 - x23.toInt).toNat < n
                      omega
                    · show 0 ≤ x23.toInt ∧ x23.toInt ≤ ((2 ^ CB (tN a1) 24 : Nat) : Int)
                      first | omega | exact hi | assumption
                    · show x22 = SQ a1 x23.toInt.toNat
                      (have e9 : (x23).toInt.toNat = m8.toInt.toNat + 1 := (by omega); rw [e9]; exact sq_2 e19 e20 e21 e22 hsq)
                    · show RBS m6 (BSF (fun t => r8.toInt ≤ ((CNT (fun i => ¬ (u10 167 i &&& (SQ a1 t)).toInt = 0) (u10 13 68).toInt.toNat : Nat) : Int)) (fun t => CB (tN (SQ a1 t)) 32) (fun t => (SQ a1 t).toInt) x23.toInt.toNat)
                      (have e9 : (x23).toInt.toNat = m8.toInt.toNat + 1 := (by omega); rw [e9]; exact rbs_n (s := m7) hbs (by show CB (tN (SQ a1 m8.toInt.toNat)) 32 = _; rw [← hsq]) (by first | exact Or.inr ⟨by omega, by omega⟩ | exact Or.inl (fun q => by have q9 : r8.toInt ≤ _ := q; rw [← hsq] at q9; omega)))
                  · have c18 : ¬ r17.toInt = 0 := tne rfl kp0 c18
                    refine lv_iload hx hb dX12_rights_120 (lv_at hl 1 rfl) ?_
                    refine lv_istore (lv' := [(6, .int m7), (8, .int m8), (7, .int m7), (5, .int r8), (4, .int r1), (0, .ref (g.2.2.1 13)), (1, .int a0), (2, .int a1), (3, .int a2)]) hx hb dX12_rights_122 hl (by decide) rfl (fun ls hl => ?_)
                    refine lv_iload hx hb dX12_rights_124 (lv_at hl 2 rfl) ?_
                    refine lv_iload_n hx hb dX12_rights_126 rfl (lv_at hl 7 rfl) ?_
                    refine lv_iconst (v := (-1)) hx hb dX12_rights_127 (by decide) ?_
                    refine lv_ixor hx hb dX12_rights_128 ?_
                    refine lv_topi (fun x24 (e24 : x24 = a1 ^^^ (-1)) => ?_)
                    refine lv_ior hx hb dX12_rights_129 ?_
                    refine lv_topi (fun x25 (e25 : x25 = m7 ||| x24) => ?_)
                    refine lv_iconst (v := 1) hx hb dX12_rights_130 (by decide) ?_
                    refine lv_iadd hx hb dX12_rights_131 ?_
                    refine lv_topi (fun x26 (e26 : x26 = x25 + 1) => ?_)
                    refine lv_iload_n hx hb dX12_rights_132 rfl (lv_at hl 7 rfl) ?_
                    refine lv_iand hx hb dX12_rights_133 ?_
                    refine lv_topi (fun x27 (e27 : x27 = x26 &&& a1) => ?_)
                    refine lv_istore (lv' := [(7, .int x27), (6, .int m7), (8, .int m8), (5, .int r8), (4, .int r1), (0, .ref (g.2.2.1 13)), (1, .int a0), (2, .int a1), (3, .int a2)]) hx hb dX12_rights_134 hl (by decide) rfl (fun ls hl => ?_)
                    obtain ⟨x28, e28⟩ : ∃ y : Int32, y = m8 + 1 := ⟨_, rfl⟩
                    refine lv_iinc (v := x28) (lv' := [(8, .int x28), (7, .int x27), (6, .int m7), (5, .int r8), (4, .int r1), (0, .ref (g.2.2.1 13)), (1, .int a0), (2, .int a1), (3, .int a2)]) hx hb dX12_rights_136 hl (k := 2) rfl (by rw [e28]; rfl) (by decide) rfl (fun ls hl => ?_)
                    try have t28 : x28.toInt = m8.toInt + 1 := tadd e28 rfl kp1 (by omega)
                    refine lv_goto (tgt := 80) hx hb dX12_rights_139 (by decide) ?_
                    refine ih m7 x27 x28 H locs ls ?_ ?_ ?_ ?_ hW (lv_sub hl [0, 1, 2, 3, 4, 5, 6, 7, 8] rfl)
                    · show (4097 - x28.toInt).toNat < n
                      omega
                    · show 0 ≤ x28.toInt ∧ x28.toInt ≤ ((2 ^ CB (tN a1) 24 : Nat) : Int)
                      first | omega | exact hi | assumption
                    · show x27 = SQ a1 x28.toInt.toNat
                      (have e9 : (x28).toInt.toNat = m8.toInt.toNat + 1 := (by omega); rw [e9]; exact sq_2 e24 e25 e26 e27 hsq)
                    · show RBS m7 (BSF (fun t => r8.toInt ≤ ((CNT (fun i => ¬ (u10 167 i &&& (SQ a1 t)).toInt = 0) (u10 13 68).toInt.toNat : Nat) : Int)) (fun t => CB (tN (SQ a1 t)) 32) (fun t => (SQ a1 t).toInt) x28.toInt.toNat)
                      (have e9 : (x28).toInt.toNat = m8.toInt.toNat + 1 := (by omega); rw [e9]; exact rbs_y hbs (by show CB (tN (SQ a1 m8.toInt.toNat)) 32 = _; rw [← hsq]) (sq_sz hh24 m8.toInt.toNat) (by omega) (by show r8.toInt ≤ _; rw [← hsq]; omega) (by show (SQ a1 m8.toInt.toNat).toInt = _; rw [← hsq]) (by have h8 := i_of_tN (sq_le hh24 m8.toInt.toNat); rw [← hsq] at h8; omega))
                · have c16 : 0 ≤ m6.toInt := tnlt rfl kp0 c16
                  refine lv_iload hx hb dX12_rights_96 (lv_at hl 1 rfl) ?_
                  refine ci_ C hW (runS (As := [.int m7]) (rest := []) (T := (((hv (hv (hv J [146, 150, 151, 152, 154] [(13, 47), (13, 48), (13, 56), (13, 57), (13, 58), (13, 59), (13, 60)] u8) [146, 165, 166] [] u9) [167] [(13, 68)] u10), L, I, P, E, N), sgM g)) C hW (c_X12_bits_e l g (hv (hv (hv J [146, 150, 151, 152, 154] [(13, 47), (13, 48), (13, 56), (13, 57), (13, 58), (13, 59), (13, 60)] u8) [146, 165, 166] [] u9) [167] [(13, 68)] u10) L I P E N H.size m7 (show 0 ≤ m7.toInt from (by have h8 := i_of_tN (sq_le hh24 m8.toInt.toNat); rw [← hsq] at h8; omega))) mi_X12_bits tw_1460 ⟨rfl, rfl, Nat.le_of_ble_eq_true rfl, Nat.le_of_ble_eq_true rfl⟩ rfl hl.1 rfl (Nat.le_of_ble_eq_true rfl) dX12_rights_98 ⟨Nat.le_of_ble_eq_true rfl, Nat.le_of_ble_eq_true rfl⟩) (fun r29 u29 H locs hp29 hW => ?_)
                  have hf29_0 : (r29.toInt = ((CB (tN m7) 32 : Nat) : Int)) := hp29
                  clear hp29
                  have hW : WB g A s.heap H locs ((hv (hv (hv J [146, 150, 151, 152, 154] [(13, 47), (13, 48), (13, 56), (13, 57), (13, 58), (13, 59), (13, 60)] u8) [146, 165, 166] [] u9) [167] [(13, 68)] u10), L, I, P, E, N) (sgM g) := hW
                  have hBA := hf29_0
                  refine lv_iload hx hb dX12_rights_101 (lv_at hl 2 rfl) ?_
                  refine ci_ C hW (runS (As := [.int m6]) (rest := [.int r29]) (T := (((hv (hv (hv J [146, 150, 151, 152, 154] [(13, 47), (13, 48), (13, 56), (13, 57), (13, 58), (13, 59), (13, 60)] u8) [146, 165, 166] [] u9) [167] [(13, 68)] u10), L, I, P, E, N), sgM g)) C hW (c_X12_bits_e l g (hv (hv (hv J [146, 150, 151, 152, 154] [(13, 47), (13, 48), (13, 56), (13, 57), (13, 58), (13, 59), (13, 60)] u8) [146, 165, 166] [] u9) [167] [(13, 68)] u10) L I P E N H.size m6 (show 0 ≤ m6.toInt from (by omega))) mi_X12_bits tw_1460 ⟨rfl, rfl, Nat.le_of_ble_eq_true rfl, Nat.le_of_ble_eq_true rfl⟩ rfl hl.1 rfl (Nat.le_of_ble_eq_true rfl) dX12_rights_103 ⟨Nat.le_of_ble_eq_true rfl, Nat.le_of_ble_eq_true rfl⟩) (fun r30 u30 H locs hp30 hW => ?_)
                  have hf30_0 : (r30.toInt = ((CB (tN m6) 32 : Nat) : Int)) := hp30
                  clear hp30
                  have hW : WB g A s.heap H locs ((hv (hv (hv J [146, 150, 151, 152, 154] [(13, 47), (13, 48), (13, 56), (13, 57), (13, 58), (13, 59), (13, 60)] u8) [146, 165, 166] [] u9) [167] [(13, 68)] u10), L, I, P, E, N) (sgM g) := hW
                  have hBB := hf30_0
                  refine lv_icmp_ge (tgt := 124) hx hb dX12_rights_106 (by decide) (fun c31 => ?_) (fun c31 => ?_)
                  · have c31 : r30.toInt ≤ r29.toInt := tle rfl rfl c31
                    refine lv_iload hx hb dX12_rights_124 (lv_at hl 1 rfl) ?_
                    refine lv_iload_n hx hb dX12_rights_126 rfl (lv_at hl 7 rfl) ?_
                    refine lv_iconst (v := (-1)) hx hb dX12_rights_127 (by decide) ?_
                    refine lv_ixor hx hb dX12_rights_128 ?_
                    refine lv_topi (fun x32 (e32 : x32 = a1 ^^^ (-1)) => ?_)
                    refine lv_ior hx hb dX12_rights_129 ?_
                    refine lv_topi (fun x33 (e33 : x33 = m7 ||| x32) => ?_)
                    refine lv_iconst (v := 1) hx hb dX12_rights_130 (by decide) ?_
                    refine lv_iadd hx hb dX12_rights_131 ?_
                    refine lv_topi (fun x34 (e34 : x34 = x33 + 1) => ?_)
                    refine lv_iload_n hx hb dX12_rights_132 rfl (lv_at hl 7 rfl) ?_
                    refine lv_iand hx hb dX12_rights_133 ?_
                    refine lv_topi (fun x35 (e35 : x35 = x34 &&& a1) => ?_)
                    refine lv_istore (lv' := [(7, .int x35), (8, .int m8), (6, .int m6), (5, .int r8), (4, .int r1), (0, .ref (g.2.2.1 13)), (1, .int a0), (2, .int a1), (3, .int a2)]) hx hb dX12_rights_134 hl (by decide) rfl (fun ls hl => ?_)
                    obtain ⟨x36, e36⟩ : ∃ y : Int32, y = m8 + 1 := ⟨_, rfl⟩
                    refine lv_iinc (v := x36) (lv' := [(8, .int x36), (7, .int x35), (6, .int m6), (5, .int r8), (4, .int r1), (0, .ref (g.2.2.1 13)), (1, .int a0), (2, .int a1), (3, .int a2)]) hx hb dX12_rights_136 hl (k := 1) rfl (by rw [e36]; rfl) (by decide) rfl (fun ls hl => ?_)
                    try have t36 : x36.toInt = m8.toInt + 1 := tadd e36 rfl kp1 (by omega)
                    refine lv_goto (tgt := 80) hx hb dX12_rights_139 (by decide) ?_
                    refine ih m6 x35 x36 H locs ls ?_ ?_ ?_ ?_ hW (lv_sub hl [0, 1, 2, 3, 4, 5, 6, 7, 8] rfl)
                    · show (4097 - x36.toInt).toNat < n
                      omega
                    · show 0 ≤ x36.toInt ∧ x36.toInt ≤ ((2 ^ CB (tN a1) 24 : Nat) : Int)
                      first | omega | exact hi | assumption
                    · show x35 = SQ a1 x36.toInt.toNat
                      (have e9 : (x36).toInt.toNat = m8.toInt.toNat + 1 := (by omega); rw [e9]; exact sq_2 e32 e33 e34 e35 hsq)
                    · show RBS m6 (BSF (fun t => r8.toInt ≤ ((CNT (fun i => ¬ (u10 167 i &&& (SQ a1 t)).toInt = 0) (u10 13 68).toInt.toNat : Nat) : Int)) (fun t => CB (tN (SQ a1 t)) 32) (fun t => (SQ a1 t).toInt) x36.toInt.toNat)
                      (have e9 : (x36).toInt.toNat = m8.toInt.toNat + 1 := (by omega); rw [e9]; exact rbs_n (s := m7) hbs (by show CB (tN (SQ a1 m8.toInt.toNat)) 32 = _; rw [← hsq]) (by first | exact Or.inr ⟨by omega, by omega⟩ | exact Or.inl (fun q => by have q9 : r8.toInt ≤ _ := q; rw [← hsq] at q9; omega)))
                  · have c31 : r29.toInt < r30.toInt := tnle rfl rfl c31
                    refine lv_aload_n hx hb dX12_rights_109 rfl (lv_at hl 5 rfl) ?_
                    refine lv_iload hx hb dX12_rights_110 (lv_at hl 1 rfl) ?_
                    refine lv_iload hx hb dX12_rights_112 (lv_at hl 3 rfl) ?_
                    refine ci_ C hW (runV (x := (g.2.2.1 13)) (As := [.int m7, .int r8]) (rest := []) (T := (((hv (hv (hv J [146, 150, 151, 152, 154] [(13, 47), (13, 48), (13, 56), (13, 57), (13, 58), (13, 59), (13, 60)] u8) [146, 165, 166] [] u9) [167] [(13, 68)] u10), L, I, P, E, N), sgM g)) C hW (c_X12_isEnough_e l g (hv (hv (hv J [146, 150, 151, 152, 154] [(13, 47), (13, 48), (13, 56), (13, 57), (13, 58), (13, 59), (13, 60)] u8) [146, 165, 166] [] u9) [167] [(13, 68)] u10) L I P E N H.size m7 r8 hwm (show 0 ≤ (u10 13 68).toInt ∧ (u10 13 68).toInt ≤ 40 from hCG.2)) mi_X12_isEnough tw_1499 (recv_ (T := (((hv (hv (hv J [146, 150, 151, 152, 154] [(13, 47), (13, 48), (13, 56), (13, 57), (13, 58), (13, 59), (13, 60)] u8) [146, 165, 166] [] u9) [167] [(13, 68)] u10), L, I, P, E, N), sgM g)) C hW (mm_ rfl) rfl rfl) ⟨rfl, rfl, Nat.le_of_ble_eq_true rfl, Nat.le_of_ble_eq_true rfl⟩ rfl hl.1 rfl (Nat.le_of_ble_eq_true rfl) dX12_rights_114 ⟨Nat.le_of_ble_eq_true rfl, Nat.le_of_ble_eq_true rfl⟩) (fun r37 u37 H locs hp37 hW => ?_)
                    have hf37_0 : (((r37.toInt : Int) = 1 ∧ r8.toInt ≤ ((CNT (fun i => ¬ (u10 167 i &&& m7).toInt = 0) (u10 13 68).toInt.toNat : Nat) : Int)) ∨ ((r37.toInt : Int) = 0 ∧ ¬ r8.toInt ≤ ((CNT (fun i => ¬ (u10 167 i &&& m7).toInt = 0) (u10 13 68).toInt.toNat : Nat) : Int))) := hp37
                    clear hp37
                    have hW : WB g A s.heap H locs ((hv (hv (hv J [146, 150, 151, 152, 154] [(13, 47), (13, 48), (13, 56), (13, 57), (13, 58), (13, 59), (13, 60)] u8) [146, 165, 166] [] u9) [167] [(13, 68)] u10), L, I, P, E, N) (sgM g) := hW
                    have hEN2 := hf37_0
                    refine lv_if_eq (tgt := 124) hx hb dX12_rights_117 (by decide) (fun c38 => ?_) (fun c38 => ?_)
                    · have c38 : r37.toInt = 0 := teq rfl kp0 c38
                      refine lv_iload hx hb dX12_rights_124 (lv_at hl 1 rfl) ?_
                      refine lv_iload_n hx hb dX12_rights_126 rfl (lv_at hl 7 rfl) ?_
                      refine lv_iconst (v := (-1)) hx hb dX12_rights_127 (by decide) ?_
                      refine lv_ixor hx hb dX12_rights_128 ?_
                      refine lv_topi (fun x39 (e39 : x39 = a1 ^^^ (-1)) => ?_)
                      refine lv_ior hx hb dX12_rights_129 ?_
                      refine lv_topi (fun x40 (e40 : x40 = m7 ||| x39) => ?_)
                      refine lv_iconst (v := 1) hx hb dX12_rights_130 (by decide) ?_
                      refine lv_iadd hx hb dX12_rights_131 ?_
                      refine lv_topi (fun x41 (e41 : x41 = x40 + 1) => ?_)
                      refine lv_iload_n hx hb dX12_rights_132 rfl (lv_at hl 7 rfl) ?_
                      refine lv_iand hx hb dX12_rights_133 ?_
                      refine lv_topi (fun x42 (e42 : x42 = x41 &&& a1) => ?_)
                      refine lv_istore (lv' := [(7, .int x42), (8, .int m8), (6, .int m6), (5, .int r8), (4, .int r1), (0, .ref (g.2.2.1 13)), (1, .int a0), (2, .int a1), (3, .int a2)]) hx hb dX12_rights_134 hl (by decide) rfl (fun ls hl => ?_)
                      obtain ⟨x43, e43⟩ : ∃ y : Int32, y = m8 + 1 := ⟨_, rfl⟩
                      refine lv_iinc (v := x43) (lv' := [(8, .int x43), (7, .int x42), (6, .int m6), (5, .int r8), (4, .int r1), (0, .ref (g.2.2.1 13)), (1, .int a0), (2, .int a1), (3, .int a2)]) hx hb dX12_rights_136 hl (k := 1) rfl (by rw [e43]; rfl) (by decide) rfl (fun ls hl => ?_)
                      try have t43 : x43.toInt = m8.toInt + 1 := tadd e43 rfl kp1 (by omega)
                      refine lv_goto (tgt := 80) hx hb dX12_rights_139 (by decide) ?_
                      refine ih m6 x42 x43 H locs ls ?_ ?_ ?_ ?_ hW (lv_sub hl [0, 1, 2, 3, 4, 5, 6, 7, 8] rfl)
                      · show (4097 - x43.toInt).toNat < n
                        omega
                      · show 0 ≤ x43.toInt ∧ x43.toInt ≤ ((2 ^ CB (tN a1) 24 : Nat) : Int)
                        first | omega | exact hi | assumption
                      · show x42 = SQ a1 x43.toInt.toNat
                        (have e9 : (x43).toInt.toNat = m8.toInt.toNat + 1 := (by omega); rw [e9]; exact sq_2 e39 e40 e41 e42 hsq)
                      · show RBS m6 (BSF (fun t => r8.toInt ≤ ((CNT (fun i => ¬ (u10 167 i &&& (SQ a1 t)).toInt = 0) (u10 13 68).toInt.toNat : Nat) : Int)) (fun t => CB (tN (SQ a1 t)) 32) (fun t => (SQ a1 t).toInt) x43.toInt.toNat)
                        (have e9 : (x43).toInt.toNat = m8.toInt.toNat + 1 := (by omega); rw [e9]; exact rbs_n (s := m7) hbs (by show CB (tN (SQ a1 m8.toInt.toNat)) 32 = _; rw [← hsq]) (by first | exact Or.inr ⟨by omega, by omega⟩ | exact Or.inl (fun q => by have q9 : r8.toInt ≤ _ := q; rw [← hsq] at q9; omega)))
                    · have c38 : ¬ r37.toInt = 0 := tne rfl kp0 c38
                      refine lv_iload hx hb dX12_rights_120 (lv_at hl 1 rfl) ?_
                      refine lv_istore (lv' := [(6, .int m7), (8, .int m8), (7, .int m7), (5, .int r8), (4, .int r1), (0, .ref (g.2.2.1 13)), (1, .int a0), (2, .int a1), (3, .int a2)]) hx hb dX12_rights_122 hl (by decide) rfl (fun ls hl => ?_)
                      refine lv_iload hx hb dX12_rights_124 (lv_at hl 2 rfl) ?_
                      refine lv_iload_n hx hb dX12_rights_126 rfl (lv_at hl 7 rfl) ?_
                      refine lv_iconst (v := (-1)) hx hb dX12_rights_127 (by decide) ?_
                      refine lv_ixor hx hb dX12_rights_128 ?_
                      refine lv_topi (fun x44 (e44 : x44 = a1 ^^^ (-1)) => ?_)
                      refine lv_ior hx hb dX12_rights_129 ?_
                      refine lv_topi (fun x45 (e45 : x45 = m7 ||| x44) => ?_)
                      refine lv_iconst (v := 1) hx hb dX12_rights_130 (by decide) ?_
                      refine lv_iadd hx hb dX12_rights_131 ?_
                      refine lv_topi (fun x46 (e46 : x46 = x45 + 1) => ?_)
                      refine lv_iload_n hx hb dX12_rights_132 rfl (lv_at hl 7 rfl) ?_
                      refine lv_iand hx hb dX12_rights_133 ?_
                      refine lv_topi (fun x47 (e47 : x47 = x46 &&& a1) => ?_)
                      refine lv_istore (lv' := [(7, .int x47), (6, .int m7), (8, .int m8), (5, .int r8), (4, .int r1), (0, .ref (g.2.2.1 13)), (1, .int a0), (2, .int a1), (3, .int a2)]) hx hb dX12_rights_134 hl (by decide) rfl (fun ls hl => ?_)
                      obtain ⟨x48, e48⟩ : ∃ y : Int32, y = m8 + 1 := ⟨_, rfl⟩
                      refine lv_iinc (v := x48) (lv' := [(8, .int x48), (7, .int x47), (6, .int m7), (5, .int r8), (4, .int r1), (0, .ref (g.2.2.1 13)), (1, .int a0), (2, .int a1), (3, .int a2)]) hx hb dX12_rights_136 hl (k := 2) rfl (by rw [e48]; rfl) (by decide) rfl (fun ls hl => ?_)
                      try have t48 : x48.toInt = m8.toInt + 1 := tadd e48 rfl kp1 (by omega)
                      refine lv_goto (tgt := 80) hx hb dX12_rights_139 (by decide) ?_
                      refine ih m7 x47 x48 H locs ls ?_ ?_ ?_ ?_ hW (lv_sub hl [0, 1, 2, 3, 4, 5, 6, 7, 8] rfl)
                      · show (4097 - x48.toInt).toNat < n
                        omega
                      · show 0 ≤ x48.toInt ∧ x48.toInt ≤ ((2 ^ CB (tN a1) 24 : Nat) : Int)
                        first | omega | exact hi | assumption
                      · show x47 = SQ a1 x48.toInt.toNat
                        (have e9 : (x48).toInt.toNat = m8.toInt.toNat + 1 := (by omega); rw [e9]; exact sq_2 e44 e45 e46 e47 hsq)
                      · show RBS m7 (BSF (fun t => r8.toInt ≤ ((CNT (fun i => ¬ (u10 167 i &&& (SQ a1 t)).toInt = 0) (u10 13 68).toInt.toNat : Nat) : Int)) (fun t => CB (tN (SQ a1 t)) 32) (fun t => (SQ a1 t).toInt) x48.toInt.toNat)
                        (have e9 : (x48).toInt.toNat = m8.toInt.toNat + 1 := (by omega); rw [e9]; exact rbs_y hbs (by show CB (tN (SQ a1 m8.toInt.toNat)) 32 = _; rw [← hsq]) (sq_sz hh24 m8.toInt.toNat) (by omega) (by show r8.toInt ≤ _; rw [← hsq]; omega) (by show (SQ a1 m8.toInt.toNat).toInt = _; rw [← hsq]) (by have h8 := i_of_tN (sq_le hh24 m8.toInt.toNat); rw [← hsq] at h8; omega))
          -- into the loop
          refine loop80 ((4097 - (0 : Int32).toInt).toNat + 1) (-9) 0 0 H locs ls ?_ ?_ ?_ ?_ hW (lv_sub hl [0, 1, 2, 3, 4, 5, 6, 7, 8] rfl)
          · exact Nat.lt_succ_self _
          · show 0 ≤ (0 : Int32).toInt ∧ (0 : Int32).toInt ≤ ((2 ^ CB (tN a1) 24 : Nat) : Int)
            try rw [kn9]
            try rw [kp0]
            try rw [kp0]
            (have h9 : 0 < 2 ^ CB (tN a1) 24 := Nat.pow_pos (by decide); first | omega | exact ⟨by decide, by omega⟩)
          · show (0 : Int32) = SQ a1 (0 : Int32).toInt.toNat
            try rw [kn9]
            try rw [kp0]
            try rw [kp0]
            rfl
          · show RBS ((-9) : Int32) (BSF (fun t => r8.toInt ≤ ((CNT (fun i => ¬ (u10 167 i &&& (SQ a1 t)).toInt = 0) (u10 13 68).toInt.toNat : Nat) : Int)) (fun t => CB (tN (SQ a1 t)) 32) (fun t => (SQ a1 t).toInt) (0 : Int32).toInt.toNat)
            try rw [kn9]
            try rw [kp0]
            try rw [kp0]
            exact rbs_0 (by decide)
        · have c12 : r11.toInt = 0 := teq rfl kp0 c12
          refine lv_bipush (v := (-9)) hx hb dX12_rights_67 (by decide) ?_
          have hWr : WB g A s.heap H locs (hv J [100, 146, 150, 151, 152, 154, 165, 166, 167] [(13, 47), (13, 48), (13, 56), (13, 57), (13, 58), (13, 59), (13, 60), (13, 68)] (hv (hv (hv J [146, 150, 151, 152, 154] [(13, 47), (13, 48), (13, 56), (13, 57), (13, 58), (13, 59), (13, 60)] u8) [146, 165, 166] [] u9) [167] [(13, 68)] u10), L, I, P, E, N) (sgM g) := by
            rw [← ag_hvE (J := J) (R := [100, 146, 150, 151, 152, 154, 165, 166, 167]) (F := [(13, 47), (13, 48), (13, 56), (13, 57), (13, 58), (13, 59), (13, 60), (13, 68)]) (ag_hv rfl rfl (ag_hv rfl rfl (ag_hv rfl rfl ag_rf)))]
            exact hW
          subst hQ9
          exact end_i C hr hlocks (hv (hv (hv J [146, 150, 151, 152, 154] [(13, 47), (13, 48), (13, 56), (13, 57), (13, 58), (13, 59), (13, 60)] u8) [146, 165, 166] [] u9) [167] [(13, 68)] u10) hWr ⟨by first | exact Or.inr (Or.inr (Or.inr (Or.inr (⟨by first | rfl | assumption, by omega, show (∃ (w : Int32) (y y2 : Nat → Int32), (∃ s o d : Int32, ((J 116 a0.toNatClampNeg).toInt = 6 → s.toInt = 0 ∧ o.toInt = 0) ∧ (¬ (J 116 a0.toNatClampNeg).toInt = 6 → CAV J a0.toNatClampNeg s.toInt o.toInt) ∧ ((¬ (2 : Int) = 2 → d.toInt = 0) ∧ ((2 : Int) = 2 → d = o)) ∧ WVM (J 121) (J 122) (J 123) (J 124) (SCL (J 116 a0.toNatClampNeg) (hrw a0.toInt) (J 118 a0.toNatClampNeg) s o (J 120 a0.toNatClampNeg) (J 13 31 - a0) (J 13 35)) (J 13 40).toInt 2 a0.toInt d w) ∧ (¬ (J 116 a0.toNatClampNeg).toInt = 6 → SND y (J 101) (J 102) (J 103) (J 104) (fun k => 0 ≤ a0.toInt ∧ CUTP (J 105) (J 106) (J 107) (J 13 34).toInt a0.toInt k) (J 118 a0.toNatClampNeg) (J 120 a0.toNatClampNeg) (J 13 32).toInt) ∧ SND y2 (J 101) (J 102) (J 103) (J 104) (fun k => 0 ≤ (-1 : Int32).toInt ∧ CUTP (J 105) (J 106) (J 107) (J 13 34).toInt (-1 : Int32).toInt k) a2 (J 13 33) (J 13 32).toInt ∧ ((¬ w.toInt ≤ ((CNT (fun h => LSM (J 116 a0.toNatClampNeg) (J 110) (J 111) a0.toInt (J 13 36) (J 109) (J 108) y y2 h ∧ ¬ (J 110 h &&& a1).toInt = 0) (J 13 35).toInt.toNat : Nat) : Int) ∧ (-9) = -9) ∨ (w.toInt ≤ ((CNT (fun h => LSM (J 116 a0.toNatClampNeg) (J 110) (J 111) a0.toInt (J 13 36) (J 109) (J 108) y y2 h ∧ ¬ (J 110 h &&& a1).toInt = 0) (J 13 35).toInt.toNat : Nat) : Int) ∧ (-9) = (BSF (fun t => w.toInt ≤ ((CNT (fun h => LSM (J 116 a0.toNatClampNeg) (J 110) (J 111) a0.toInt (J 13 36) (J 109) (J 108) y y2 h ∧ ¬ (J 110 h &&& (SQ a1 t)).toInt = 0) (J 13 35).toInt.toNat : Nat) : Int)) (fun t => CB (tN (SQ a1 t)) 32) (fun t => (SQ a1 t).toInt) (2 ^ CB (tN a1) 24)).1))) from (by obtain ⟨y9, y8, h1, h2, h3, h4⟩ := hAS; have hCE := rt_cnt (w := r8.toInt) (a := a1) (sz := fun t => CB (tN (SQ a1 t)) 32) (v := fun t => (SQ a1 t).toInt) (T := 2 ^ CB (tN a1) 24) hCG h3 h4; exact ⟨_, y9, y8, hWO, h1, h2, Or.inl ⟨fun q9 => absurd (Int.le_trans q9 (Int.le_of_eq hCE.1.symm)) (by omega), rfl⟩⟩)⟩)))), show CAC (hv J [100, 146, 150, 151, 152, 154, 165, 166, 167] [(13, 47), (13, 48), (13, 56), (13, 57), (13, 58), (13, 59), (13, 60), (13, 68)] (hv (hv (hv J [146, 150, 151, 152, 154] [(13, 47), (13, 48), (13, 56), (13, 57), (13, 58), (13, 59), (13, 60)] u8) [146, 165, 166] [] u9) [167] [(13, 68)] u10)) from by rw [← ag_hvE (J := J) (R := [100, 146, 150, 151, 152, 154, 165, 166, 167]) (F := [(13, 47), (13, 48), (13, 56), (13, 57), (13, 58), (13, 59), (13, 60), (13, 68)]) (ag_hv rfl rfl (ag_hv rfl rfl (ag_hv rfl rfl ag_rf)))]; exact cac_e (J := (hv J [146, 150, 151, 152, 154] [(13, 47), (13, 48), (13, 56), (13, 57), (13, 58), (13, 59), (13, 60)] u8)) ⟨rfl, rfl, rfl, rfl, rfl, rfl, rfl, rfl, rfl, rfl, rfl, rfl, rfl, rfl, rfl, rfl, rfl, rfl, rfl, rfl⟩ rfl rfl rfl hCC⟩ dX12_rights_69
      · have c7 : ¬ r1.toInt = 0 := tne rfl kp0 c7
        exfalso; omega
    · have c6 : 12 < r5.toInt := tnle rfl kp12 c6
      refine lv_bipush (v := (-6)) hx hb dX12_rights_23 (by decide) ?_
      refine lv_istore (lv' := [(4, .int (-6)), (0, .ref (g.2.2.1 13)), (1, .int a0), (2, .int a1), (3, .int a2)]) hx hb dX12_rights_25 hl (by decide) rfl (fun ls hl => ?_)
      refine lv_iload hx hb dX12_rights_27 (lv_at hl 0 rfl) ?_
      refine lv_if_eq (tgt := 39) hx hb dX12_rights_29 (by decide) (fun c49 => ?_) (fun c49 => ?_)
      · exact absurd c49 (by decide)
      · skip
        refine lv_aload_n hx hb dX12_rights_32 rfl (lv_at hl 1 rfl) ?_
        refine lv_iload hx hb dX12_rights_33 (lv_at hl 0 rfl) ?_
        refine ci_ C hW (runV (x := (g.2.2.1 13)) (As := [.int (-6)]) (rest := []) (T := ((J, L, I, P, E, N), sgM g)) C hW (c_X12_refuse l g J L I P E N H.size (-6) (show -6 ≤ (-6 : Int32).toInt ∧ (-6 : Int32).toInt ≤ -1 from by (try simp only [kn6]); omega)) mi_X12_refuse tw_1239 (recv_ (T := ((J, L, I, P, E, N), sgM g)) C hW (mm_ rfl) rfl rfl) ⟨rfl, rfl, Nat.le_of_ble_eq_true rfl, Nat.le_of_ble_eq_true rfl⟩ rfl hl.1 rfl (Nat.le_of_ble_eq_true rfl) dX12_rights_35 ⟨Nat.le_of_ble_eq_true rfl, Nat.le_of_ble_eq_true rfl⟩) (fun r50 u50 H locs hp50 hW => ?_)
        have hc50 : ((r50 = (-6))) := hp50
        clear hp50
        have hr50 : r50.toInt = (-6) := by rw [hc50]; exact kn6
        have hW : WB g A s.heap H locs ((hv J [100] [] u50), L, I, P, E, N) (sgM g) := hW
        have hWr : WB g A s.heap H locs (hv J [100, 146, 150, 151, 152, 154, 165, 166, 167] [(13, 47), (13, 48), (13, 56), (13, 57), (13, 58), (13, 59), (13, 60), (13, 68)] (hv J [100] [] u50), L, I, P, E, N) (sgM g) := by
          rw [← ag_hvE (J := J) (R := [100, 146, 150, 151, 152, 154, 165, 166, 167]) (F := [(13, 47), (13, 48), (13, 56), (13, 57), (13, 58), (13, 59), (13, 60), (13, 68)]) (ag_hv rfl rfl ag_rf)]
          exact hW
        subst hQ9
        exact end_i C hr hlocks (hv J [100] [] u50) hWr ⟨by first | exact Or.inl ⟨by omega, by omega⟩ | exact Or.inr (Or.inl ⟨by omega, by omega⟩) | exact Or.inr (Or.inr (Or.inl ⟨by omega, by omega⟩)) | exact Or.inr (Or.inr (Or.inr (Or.inl ⟨by omega, by omega⟩))) | (rcases hc1 with qhc1 | qhc1 | qhc1 | qhc1 <;> first | exact Or.inl ⟨by omega, by omega⟩ | exact Or.inr (Or.inl ⟨by omega, by omega⟩) | exact Or.inr (Or.inr (Or.inl ⟨by omega, by omega⟩)) | exact Or.inr (Or.inr (Or.inr (Or.inl ⟨by omega, by omega⟩))) | (exfalso; omega)), show CAC (hv J [100, 146, 150, 151, 152, 154, 165, 166, 167] [(13, 47), (13, 48), (13, 56), (13, 57), (13, 58), (13, 59), (13, 60), (13, 68)] (hv J [100] [] u50)) from by rw [← ag_hvE (J := J) (R := [100, 146, 150, 151, 152, 154, 165, 166, 167]) (F := [(13, 47), (13, 48), (13, 56), (13, 57), (13, 58), (13, 59), (13, 60), (13, 68)]) (ag_hv rfl rfl ag_rf)]; exact cac_e (J := J) ⟨rfl, rfl, rfl, rfl, rfl, rfl, rfl, rfl, rfl, rfl, rfl, rfl, rfl, rfl, rfl, rfl, rfl, rfl, rfl, rfl⟩ rfl rfl rfl hcac⟩ dX12_rights_38
