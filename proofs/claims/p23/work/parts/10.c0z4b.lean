set_option maxHeartbeats 4000000 in
set_option maxRecDepth 100000 in
theorem c_X12_explains_q (l : Launch) (g : gG) (J : Nat → Nat → Int32) (L : Nat → Nat → Int64) (I : Nat → Nat → Nat → Int32) (P : Nat → Nat → Nat → Option Nat) (E : Nat → Option Nat) (N : Nat → Nat) (sz : Nat) (a0 : Int32) (hwm : WM J) (hc01 : ∀ k : Nat, (J 112 k).toInt = 0 ∨ (J 112 k).toInt = 1) : Met l yX12_explains (WS yX12_explains cX12_explains 5 (some .boolean)) (RM (1) 0 0) (PC g [.ref (g.2.2.1 13), .int a0] ((J, L, I, P, E, N), sgM g) sz) (va_Qi (fun (r : Int32) (u : Unit) => ((r.toInt = 1) ∨ (r.toInt = 0)) ∧ (((r.toInt : Int) = 1 ∧ EXPL (J 101) a0 (J 112) (J 108) (J 13 35).toInt) ∨ ((r.toInt : Int) = 0 ∧ ¬ EXPL (J 101) a0 (J 112) (J 108) (J 13 35).toInt))) (fun u t => at_ g (FR g ((J, L, I, P, E, N), sgM g) sz) ((J, L, I, P, E, N), sgM g) t) (FR g ((J, L, I, P, E, N), sgM g) sz)) 0 0 (FR g ((J, L, I, P, E, N), sgM g) sz) := by
  refine ent (by decide +kernel) (Nat.le_of_ble_eq_true rfl) ?_
  intro p e s m below meth c ls hsz C hW hr hlocks hname hl
  generalize FR g ((J, L, I, P, E, N), sgM g) sz = A at C hW ⊢
  generalize hQ9 : (va_Qi (fun (r : Int32) (u : Unit) => ((r.toInt = 1) ∨ (r.toInt = 0)) ∧ (((r.toInt : Int) = 1 ∧ EXPL (J 101) a0 (J 112) (J 108) (J 13 35).toInt) ∨ ((r.toInt : Int) = 0 ∧ ¬ EXPL (J 101) a0 (J 112) (J 108) (J 13 35).toInt))) (fun u t => at_ g A ((J, L, I, P, E, N), sgM g) t) A) = Q9
  have hx := C.1.1
  have hb := C.1.2.1
  have hts := C.1.2.2.2.2
  have hW : WB g A s.heap s.heap [] (J, L, I, P, E, N) (sgM g) := hW
  have hl : lv_has ls 5 [(0, .ref (g.2.2.1 13)), (1, .int a0)] := hl
  obtain ⟨H, hH⟩ : ∃ H : Heap, H = s.heap := ⟨_, rfl⟩
  obtain ⟨locs, hlocs⟩ : ∃ q : List Loc, q = [] := ⟨_, rfl⟩
  have hW : WB g A s.heap H locs (J, L, I, P, E, N) (sgM g) := by rw [hH, hlocs]; exact hW
  obtain ⟨⟨hnd1, hnd2, hon, hhm1, hhm2, hhN, hcu1, hcu2, hco1, hco2, hcN⟩, ⟨hrd1, hrd2⟩, ⟨hnw1, hnw2, hns1, hns2, hof⟩, ⟨htm1, htm2, hts_⟩, ⟨had1, had2, hrw1, hrw2, htp1, htp2⟩⟩ := id hwm
  refine start_ hH hlocs ?_
  refine lv_iconst (v := 0) hx hb dX12_explains_0 (by decide) ?_
  refine lv_istore_n (lv' := [(2, .int 0), (0, .ref (g.2.2.1 13)), (1, .int a0)]) hx hb dX12_explains_1 rfl hl (by decide) rfl (fun ls hl => ?_)
  have loop2 : ∀ (n : Nat) (m2 : Int32) (H : Heap) (locs : List Loc) (ls : Array Slot), (40 - m2.toInt).toNat < n → 0 ≤ m2.toInt ∧ m2.toInt ≤ (J 13 35).toInt → (∀ h : Nat, (h : Int) < m2.toInt → (¬ (J 112 h).toInt = 0 ↔ WBR (J 101) a0 (J 108 h).toNatClampNeg)) → WB g A s.heap H locs (J, L, I, P, E, N) (sgM g) → lv_has ls 5 [(2, .int m2), (0, .ref (g.2.2.1 13)), (1, .int a0)] → W p l e (RM (1) 0 0) s m ([.ref (g.2.2.1 13), .int a0] : List Value).toArray below meth c H locs 0 0 (MQ below Q9 ([.ref (g.2.2.1 13), .int a0] : List Value).toArray s 0 0 A) (F0 m 2 ls []) := by
    intro n
    induction n with
    | zero => intro m2 H locs ls hmeas; exact absurd hmeas (Nat.not_lt_zero _)
    | succ n ih =>
      intro m2 H locs ls hmeas hi hal hW hl
      refine lv_iload_n hx hb dX12_explains_2 rfl (lv_at hl 0 rfl) ?_
      refine lv_aload_n hx hb dX12_explains_3 rfl (lv_at hl 1 rfl) ?_
      refine rg_13_35 C hW (mm_ rfl) tw_1058 dX12_explains_4 ?_
      refine lv_icmp_ge (tgt := 82) hx hb dX12_explains_7 (by decide) (fun c1 => ?_) (fun c1 => ?_)
      · have c1 : (J 13 35).toInt ≤ m2.toInt := tle rfl rfl c1
        refine lv_iconst (v := 1) hx hb dX12_explains_82 (by decide) ?_
        subst hQ9
        exact end_z C hr hlocks (by decide) () hW ⟨by first | exact Or.inl (by decide), show ((1 : Int) = 1 ∧ EXPL (J 101) a0 (J 112) (J 108) (J 13 35).toInt) ∨ ((1 : Int) = 0 ∧ ¬ EXPL (J 101) a0 (J 112) (J 108) (J 13 35).toInt) from by exact Or.inl ⟨rfl, fun h hh => hal h (by omega)⟩⟩ dX12_explains_83
      · have c1 : m2.toInt < (J 13 35).toInt := tnle rfl rfl c1
        refine lv_iconst (v := 0) hx hb dX12_explains_10 (by decide) ?_
        refine lv_istore_n (lv' := [(3, .int 0), (2, .int m2), (0, .ref (g.2.2.1 13)), (1, .int a0)]) hx hb dX12_explains_11 rfl hl (by decide) rfl (fun ls hl => ?_)
        refine lv_aload_n hx hb dX12_explains_12 rfl (lv_at hl 2 rfl) ?_
        refine rg_13_8 C hW (mm_ rfl) tw_1031 dX12_explains_13 ?_
        refine lv_iload_n hx hb dX12_explains_16 rfl (lv_at hl 1 rfl) ?_
        have hin : vp_in m2 40 := tin rfl (by omega)
        refine ra_108 C hW (mm_ rfl) hin dX12_explains_17 ?_
        refine lv_topi (fun x2 (e2 : x2 = J 108 m2.toNatClampNeg) => ?_)
        have t2 : x2.toInt = (J 108 m2.toNatClampNeg).toInt := by rw [e2]
        have q2 := hhN m2.toNatClampNeg
        rw [← e2] at q2
        have k2 := tcl m2
        refine lv_istore (lv' := [(4, .int x2), (3, .int 0), (2, .int m2), (0, .ref (g.2.2.1 13)), (1, .int a0)]) hx hb dX12_explains_18 hl (by decide) rfl (fun ls hl => ?_)
        have loop20 : ∀ (n20 : Nat) (m3 : Int32) (m4 : Int32) (H : Heap) (locs : List Loc) (ls : Array Slot), m4.toInt.toNat < n20 → 0 ≤ m4.toInt ∧ m4.toInt < (J 13 32).toInt → WBI (J 101) a0 m3 m4 (J 108 m2.toNatClampNeg).toNatClampNeg → WB g A s.heap H locs (J, L, I, P, E, N) (sgM g) → lv_has ls 5 [(4, .int m4), (3, .int m3), (2, .int m2), (0, .ref (g.2.2.1 13)), (1, .int a0)] → W p l e (RM (1) 0 0) s m ([.ref (g.2.2.1 13), .int a0] : List Value).toArray below meth c H locs 0 0 (MQ below Q9 ([.ref (g.2.2.1 13), .int a0] : List Value).toArray s 0 0 A) (F0 m 20 ls []) := by
          intro n20
          induction n20 with
          | zero => intro m3 m4 H locs ls hmeas; exact absurd hmeas (Nat.not_lt_zero _)
          | succ n20 ih20 =>
            intro m3 m4 H locs ls hmeas hj hbk hW hl
            refine lv_iload hx hb dX12_explains_20 (lv_at hl 0 rfl) ?_
            refine lv_if_le (tgt := 64) hx hb dX12_explains_22 (by decide) (fun c3 => ?_) (fun c3 => ?_)
            · have c3 : m4.toInt ≤ 0 := tle rfl kp0 c3
              have hWE := wbi_e hbk (by omega)
              refine lv_iload_n hx hb dX12_explains_64 rfl (lv_at hl 1 rfl) ?_
              refine lv_aload_n hx hb dX12_explains_65 rfl (lv_at hl 3 rfl) ?_
              refine rg_13_12 C hW (mm_ rfl) tw_1035 dX12_explains_66 ?_
              refine lv_iload_n hx hb dX12_explains_69 rfl (lv_at hl 2 rfl) ?_
              have hin : vp_in m2 40 := tin rfl (by omega)
              refine ra_112 C hW (mm_ rfl) hin dX12_explains_70 ?_
              refine lv_topi (fun x4 (e4 : x4 = J 112 m2.toNatClampNeg) => ?_)
              have t4 : x4.toInt = (J 112 m2.toNatClampNeg).toInt := by rw [e4]
              have hC9 := hc01 m2.toNatClampNeg
              rw [← e4] at hC9
              refine lv_icmp_eq (tgt := 76) hx hb dX12_explains_71 (by decide) (fun c5 => ?_) (fun c5 => ?_)
              · have c5 : m3.toInt = x4.toInt := teq rfl rfl c5
                obtain ⟨x6, e6⟩ : ∃ y : Int32, y = m2 + 1 := ⟨_, rfl⟩
                refine lv_iinc (v := x6) (lv' := [(2, .int x6), (4, .int m4), (3, .int m3), (0, .ref (g.2.2.1 13)), (1, .int a0)]) hx hb dX12_explains_76 hl (k := 2) rfl (by rw [e6]; rfl) (by decide) rfl (fun ls hl => ?_)
                try have t6 : x6.toInt = m2.toInt + 1 := tadd e6 rfl kp1 (by omega)
                refine lv_goto (tgt := 2) hx hb dX12_explains_79 (by decide) ?_
                refine ih x6 H locs ls ?_ ?_ ?_ hW (lv_sub hl [0, 3, 4] rfl)
                · show (40 - x6.toInt).toNat < n
                  omega
                · show 0 ≤ x6.toInt ∧ x6.toInt ≤ (J 13 35).toInt
                  first | omega | exact hi | assumption
                · show ∀ h : Nat, (h : Int) < x6.toInt → (¬ (J 112 h).toInt = 0 ↔ WBR (J 101) a0 (J 108 h).toNatClampNeg)
                  exact hal_s hal (by omega) (by omega) (by show ¬ (J 112 m2.toNatClampNeg).toInt = 0 ↔ WBR (J 101) a0 (J 108 m2.toNatClampNeg).toNatClampNeg; rw [← hWE, ← e4]; omega)
              · have c5 : ¬ m3.toInt = x4.toInt := tne rfl rfl c5
                refine lv_iconst (v := 0) hx hb dX12_explains_74 (by decide) ?_
                subst hQ9
                exact end_z C hr hlocks (by decide) () hW ⟨by first | exact Or.inr ((by decide)), show ((0 : Int) = 1 ∧ EXPL (J 101) a0 (J 112) (J 108) (J 13 35).toInt) ∨ ((0 : Int) = 0 ∧ ¬ EXPL (J 101) a0 (J 112) (J 108) (J 13 35).toInt) from by exact Or.inr ⟨rfl, fun q => by (have q9 : ¬ (J 112 m2.toNatClampNeg).toInt = 0 ↔ WBR (J 101) a0 (J 108 m2.toNatClampNeg).toNatClampNeg := q m2.toNatClampNeg (by have h8 := tcl m2; omega); rw [← hWE, ← e4] at q9; have h9 := hbk.1; omega)⟩⟩ dX12_explains_75
            · have c3 : 0 < m4.toInt := tnle rfl kp0 c3
              refine lv_iload_n hx hb dX12_explains_25 rfl (lv_at hl 1 rfl) ?_
              refine lv_if_ne (tgt := 46) hx hb dX12_explains_26 (by decide) (fun c7 => ?_) (fun c7 => ?_)
              · have c7 : ¬ m3.toInt = 0 := tne rfl kp0 c7
                refine lv_iconst (v := 1) hx hb dX12_explains_46 (by decide) ?_
                refine lv_goto (tgt := 51) hx hb dX12_explains_47 (by decide) ?_
                refine lv_istore_n (lv' := [(3, .int 1), (4, .int m4), (2, .int m2), (0, .ref (g.2.2.1 13)), (1, .int a0)]) hx hb dX12_explains_51 rfl hl (by decide) rfl (fun ls hl => ?_)
                refine lv_aload_n hx hb dX12_explains_52 rfl (lv_at hl 3 rfl) ?_
                refine rg_13_1 C hW (mm_ rfl) tw_1024 dX12_explains_53 ?_
                refine lv_iload hx hb dX12_explains_56 (lv_at hl 1 rfl) ?_
                have hin : vp_in m4 20 := tin rfl (by omega)
                refine ra_101 C hW (mm_ rfl) hin dX12_explains_58 ?_
                refine lv_topi (fun x8 (e8 : x8 = J 101 m4.toNatClampNeg) => ?_)
                have t8 : x8.toInt = (J 101 m4.toNatClampNeg).toInt := by rw [e8]
                have q8 := hon m4.toNatClampNeg
                rw [← e8] at q8
                have k8 := tcl m4
                refine lv_istore (lv' := [(4, .int x8), (3, .int 1), (2, .int m2), (0, .ref (g.2.2.1 13)), (1, .int a0)]) hx hb dX12_explains_59 hl (by decide) rfl (fun ls hl => ?_)
                refine lv_goto (tgt := 20) hx hb dX12_explains_61 (by decide) ?_
                refine ih20 1 x8 H locs ls ?_ ?_ ?_ hW (lv_sub hl [0, 1, 2, 3, 4] rfl)
                · show x8.toInt.toNat < n20
                  omega
                · show 0 ≤ x8.toInt ∧ x8.toInt < (J 13 32).toInt
                  first | omega | exact hj | assumption
                · show WBI (J 101) a0 (1 : Int32) x8 (J 108 m2.toNatClampNeg).toNatClampNeg
                  exact wbi_s hbk (fun k h1 h2 => hon k h1 h2) hnd2 (by omega) (by omega) e8 (Or.inl ⟨by first | decide | exact kp1, Or.inl (by have h9 := hbk.1; omega)⟩)
              · have c7 : m3.toInt = 0 := teq rfl kp0 c7
                refine lv_iload hx hb dX12_explains_29 (lv_at hl 0 rfl) ?_
                refine lv_bipush (v := 12) hx hb dX12_explains_31 (by decide) ?_
                refine lv_icmp_ge (tgt := 50) hx hb dX12_explains_33 (by decide) (fun c9 => ?_) (fun c9 => ?_)
                · have c9 : 12 ≤ m4.toInt := tle kp12 rfl c9
                  refine lv_iconst (v := 0) hx hb dX12_explains_50 (by decide) ?_
                  refine lv_istore_n (lv' := [(3, .int 0), (4, .int m4), (2, .int m2), (0, .ref (g.2.2.1 13)), (1, .int a0)]) hx hb dX12_explains_51 rfl hl (by decide) rfl (fun ls hl => ?_)
                  refine lv_aload_n hx hb dX12_explains_52 rfl (lv_at hl 3 rfl) ?_
                  refine rg_13_1 C hW (mm_ rfl) tw_1024 dX12_explains_53 ?_
                  refine lv_iload hx hb dX12_explains_56 (lv_at hl 1 rfl) ?_
                  have hin : vp_in m4 20 := tin rfl (by omega)
                  refine ra_101 C hW (mm_ rfl) hin dX12_explains_58 ?_
                  refine lv_topi (fun x10 (e10 : x10 = J 101 m4.toNatClampNeg) => ?_)
                  have t10 : x10.toInt = (J 101 m4.toNatClampNeg).toInt := by rw [e10]
                  have q10 := hon m4.toNatClampNeg
                  rw [← e10] at q10
                  have k10 := tcl m4
                  refine lv_istore (lv' := [(4, .int x10), (3, .int 0), (2, .int m2), (0, .ref (g.2.2.1 13)), (1, .int a0)]) hx hb dX12_explains_59 hl (by decide) rfl (fun ls hl => ?_)
                  refine lv_goto (tgt := 20) hx hb dX12_explains_61 (by decide) ?_
                  refine ih20 0 x10 H locs ls ?_ ?_ ?_ hW (lv_sub hl [0, 1, 2, 3, 4] rfl)
                  · show x10.toInt.toNat < n20
                    omega
                  · show 0 ≤ x10.toInt ∧ x10.toInt < (J 13 32).toInt
                    first | omega | exact hj | assumption
                  · show WBI (J 101) a0 (0 : Int32) x10 (J 108 m2.toNatClampNeg).toNatClampNeg
                    exact wbi_s hbk (fun k h1 h2 => hon k h1 h2) hnd2 (by omega) (by omega) e10 (Or.inr ⟨by first | decide | exact kp0, by omega, fun z => by omega⟩)
                · have c9 : m4.toInt < 12 := tnle kp12 rfl c9
                  refine lv_iload_n hx hb dX12_explains_36 rfl (lv_at hl 4 rfl) ?_
                  refine lv_iload hx hb dX12_explains_37 (lv_at hl 0 rfl) ?_
                  refine lv_ishr hx hb dX12_explains_39 ?_
                  refine lv_topi (fun x11 (e11 : x11 = a0 >>> (m4 &&& 31)) => ?_)
                  refine lv_iconst (v := 1) hx hb dX12_explains_40 (by decide) ?_
                  refine lv_iand hx hb dX12_explains_41 ?_
                  refine lv_topi (fun x12 (e12 : x12 = x11 &&& 1) => ?_)
                  refine lv_iconst (v := 1) hx hb dX12_explains_42 (by decide) ?_
                  refine lv_icmp_ne (tgt := 50) hx hb dX12_explains_43 (by decide) (fun c13 => ?_) (fun c13 => ?_)
                  · have c13 : ¬ x12.toInt = 1 := tne rfl kp1 c13
                    refine lv_iconst (v := 0) hx hb dX12_explains_50 (by decide) ?_
                    refine lv_istore_n (lv' := [(3, .int 0), (4, .int m4), (2, .int m2), (0, .ref (g.2.2.1 13)), (1, .int a0)]) hx hb dX12_explains_51 rfl hl (by decide) rfl (fun ls hl => ?_)
                    refine lv_aload_n hx hb dX12_explains_52 rfl (lv_at hl 3 rfl) ?_
                    refine rg_13_1 C hW (mm_ rfl) tw_1024 dX12_explains_53 ?_
                    refine lv_iload hx hb dX12_explains_56 (lv_at hl 1 rfl) ?_
                    have hin : vp_in m4 20 := tin rfl (by omega)
                    refine ra_101 C hW (mm_ rfl) hin dX12_explains_58 ?_
                    refine lv_topi (fun x14 (e14 : x14 = J 101 m4.toNatClampNeg) => ?_)
                    have t14 : x14.toInt = (J 101 m4.toNatClampNeg).toInt := by rw [e14]
                    have q14 := hon m4.toNatClampNeg
                    rw [← e14] at q14
                    have k14 := tcl m4
                    refine lv_istore (lv' := [(4, .int x14), (3, .int 0), (2, .int m2), (0, .ref (g.2.2.1 13)), (1, .int a0)]) hx hb dX12_explains_59 hl (by decide) rfl (fun ls hl => ?_)
                    refine lv_goto (tgt := 20) hx hb dX12_explains_61 (by decide) ?_
                    refine ih20 0 x14 H locs ls ?_ ?_ ?_ hW (lv_sub hl [0, 1, 2, 3, 4] rfl)
                    · show x14.toInt.toNat < n20
                      omega
                    · show 0 ≤ x14.toInt ∧ x14.toInt < (J 13 32).toInt
                      first | omega | exact hj | assumption
                    · show WBI (J 101) a0 (0 : Int32) x14 (J 108 m2.toNatClampNeg).toNatClampNeg
                      exact wbi_s hbk (fun k h1 h2 => hon k h1 h2) hnd2 (by omega) (by omega) e14 (Or.inr ⟨by first | decide | exact kp0, by omega, fun z => (ib_shr (by omega) (by omega) e11 e12).elim (fun q => absurd q.1 (by omega)) (fun q => q.2 z.2)⟩)
                  · have c13 : x12.toInt = 1 := teq rfl kp1 c13
                    refine lv_iconst (v := 1) hx hb dX12_explains_46 (by decide) ?_
                    refine lv_goto (tgt := 51) hx hb dX12_explains_47 (by decide) ?_
                    refine lv_istore_n (lv' := [(3, .int 1), (4, .int m4), (2, .int m2), (0, .ref (g.2.2.1 13)), (1, .int a0)]) hx hb dX12_explains_51 rfl hl (by decide) rfl (fun ls hl => ?_)
                    refine lv_aload_n hx hb dX12_explains_52 rfl (lv_at hl 3 rfl) ?_
                    refine rg_13_1 C hW (mm_ rfl) tw_1024 dX12_explains_53 ?_
                    refine lv_iload hx hb dX12_explains_56 (lv_at hl 1 rfl) ?_
                    have hin : vp_in m4 20 := tin rfl (by omega)
                    refine ra_101 C hW (mm_ rfl) hin dX12_explains_58 ?_
                    refine lv_topi (fun x15 (e15 : x15 = J 101 m4.toNatClampNeg) => ?_)
                    have t15 : x15.toInt = (J 101 m4.toNatClampNeg).toInt := by rw [e15]
                    have q15 := hon m4.toNatClampNeg
                    rw [← e15] at q15
                    have k15 := tcl m4
                    refine lv_istore (lv' := [(4, .int x15), (3, .int 1), (2, .int m2), (0, .ref (g.2.2.1 13)), (1, .int a0)]) hx hb dX12_explains_59 hl (by decide) rfl (fun ls hl => ?_)
                    refine lv_goto (tgt := 20) hx hb dX12_explains_61 (by decide) ?_
                    refine ih20 1 x15 H locs ls ?_ ?_ ?_ hW (lv_sub hl [0, 1, 2, 3, 4] rfl)
                    · show x15.toInt.toNat < n20
                      omega
                    · show 0 ≤ x15.toInt ∧ x15.toInt < (J 13 32).toInt
                      first | omega | exact hj | assumption
                    · show WBI (J 101) a0 (1 : Int32) x15 (J 108 m2.toNatClampNeg).toNatClampNeg
                      exact wbi_s hbk (fun k h1 h2 => hon k h1 h2) hnd2 (by omega) (by omega) e15 (Or.inl ⟨by first | decide | exact kp1, Or.inr ⟨by omega, (ib_shr (by omega) (by omega) e11 e12).elim (fun q => q.2) (fun q => absurd q.1 (by omega))⟩⟩)
        -- into the loop
        refine loop20 (x2.toInt.toNat + 1) 0 x2 H locs ls ?_ ?_ ?_ hW (lv_sub hl [0, 1, 2, 3, 4] rfl)
        · exact Nat.lt_succ_self _
        · show 0 ≤ x2.toInt ∧ x2.toInt < (J 13 32).toInt
          try rw [kp0]
          first | omega | exact hj | assumption
        · show WBI (J 101) a0 (0 : Int32) x2 (J 108 m2.toNatClampNeg).toNatClampNeg
          try rw [kp0]
          exact wbi_0 (by first | rfl | exact kp0) (by rw [e2])
  -- into the loop
  refine loop2 ((40 - (0 : Int32).toInt).toNat + 1) 0 H locs ls ?_ ?_ ?_ hW (lv_sub hl [0, 1, 2] rfl)
  · exact Nat.lt_succ_self _
  · show 0 ≤ (0 : Int32).toInt ∧ (0 : Int32).toInt ≤ (J 13 35).toInt
    try rw [kp0]
    first | omega | exact hi | assumption
  · show ∀ h : Nat, (h : Int) < (0 : Int32).toInt → (¬ (J 112 h).toInt = 0 ↔ WBR (J 101) a0 (J 108 h).toNatClampNeg)
    try rw [kp0]
    intro h hh; exfalso; omega

set_option maxHeartbeats 4000000 in
set_option maxRecDepth 100000 in
theorem c_X12_breaks_q (l : Launch) (g : gG) (J : Nat → Nat → Int32) (L : Nat → Nat → Int64) (I : Nat → Nat → Nat → Int32) (P : Nat → Nat → Nat → Option Nat) (E : Nat → Option Nat) (N : Nat → Nat) (sz : Nat) (a0 : Int32) (hwm : WM J) (hc01 : ∀ k : Nat, (J 112 k).toInt = 0 ∨ (J 112 k).toInt = 1) : Met l yX12_breaks (WS yX12_breaks cX12_breaks 5 (some .int)) (RM (3) 0 0) (PC g [.ref (g.2.2.1 13), .int a0] ((J, L, I, P, E, N), sgM g) sz) (va_Qi (fun (r : Int32) (u : (Nat → Nat → Int32)) => ((r.toInt = (-2) ∧ (¬ (0 ≤ a0.toInt ∧ a0.toInt ≤ 2))) ∨ (r = r ∧ (0 ≤ a0.toInt ∧ a0.toInt ≤ 2) ∧ (BKR (BRF (fun t => EXPL (J 101) (Int32.ofNat (2 * t)) (J 112) (J 108) (J 13 35).toInt) (fun t => CB (2 * t) 32) (fun t => ((2 * t : Nat) : Int)) (2 ^ (min 12 (J 13 32).toInt.toNat - 1))) a0.toInt r.toInt)))) (fun u t => at_ g (FR g ((J, L, I, P, E, N), sgM g) sz) ((hv J [100] [] u, L, I, P, E, N), sgM g) t) (FR g ((J, L, I, P, E, N), sgM g) sz)) 0 0 (FR g ((J, L, I, P, E, N), sgM g) sz) := by
  refine ent (by decide +kernel) (Nat.le_of_ble_eq_true rfl) ?_
  intro p e s m below meth c ls hsz C hW hr hlocks hname hl
  generalize FR g ((J, L, I, P, E, N), sgM g) sz = A at C hW ⊢
  generalize hQ9 : (va_Qi (fun (r : Int32) (u : (Nat → Nat → Int32)) => ((r.toInt = (-2) ∧ (¬ (0 ≤ a0.toInt ∧ a0.toInt ≤ 2))) ∨ (r = r ∧ (0 ≤ a0.toInt ∧ a0.toInt ≤ 2) ∧ (BKR (BRF (fun t => EXPL (J 101) (Int32.ofNat (2 * t)) (J 112) (J 108) (J 13 35).toInt) (fun t => CB (2 * t) 32) (fun t => ((2 * t : Nat) : Int)) (2 ^ (min 12 (J 13 32).toInt.toNat - 1))) a0.toInt r.toInt)))) (fun u t => at_ g A ((hv J [100] [] u, L, I, P, E, N), sgM g) t) A) = Q9
  have hx := C.1.1
  have hb := C.1.2.1
  have hts := C.1.2.2.2.2
  have hW : WB g A s.heap s.heap [] (J, L, I, P, E, N) (sgM g) := hW
  have hl : lv_has ls 5 [(0, .ref (g.2.2.1 13)), (1, .int a0)] := hl
  obtain ⟨H, hH⟩ : ∃ H : Heap, H = s.heap := ⟨_, rfl⟩
  obtain ⟨locs, hlocs⟩ : ∃ q : List Loc, q = [] := ⟨_, rfl⟩
  have hW : WB g A s.heap H locs (J, L, I, P, E, N) (sgM g) := by rw [hH, hlocs]; exact hW
  obtain ⟨⟨hnd1, hnd2, hon, hhm1, hhm2, hhN, hcu1, hcu2, hco1, hco2, hcN⟩, ⟨hrd1, hrd2⟩, ⟨hnw1, hnw2, hns1, hns2, hof⟩, ⟨htm1, htm2, hts_⟩, ⟨had1, had2, hrw1, hrw2, htp1, htp2⟩⟩ := id hwm
  refine start_ hH hlocs ?_
  refine lv_iload_n hx hb dX12_breaks_0 rfl (lv_at hl 1 rfl) ?_
  refine lv_iconst (v := 3) hx hb dX12_breaks_1 (by decide) ?_
  refine ci_ C hW (runS (As := [.int a0, .int 3]) (rest := []) (T := ((J, L, I, P, E, N), sgM g)) C hW (c_X12_isIn l g J L I P E N H.size a0 3 ) mi_X12_isIn tw_1255 ⟨rfl, rfl, Nat.le_of_ble_eq_true rfl, Nat.le_of_ble_eq_true rfl⟩ rfl hl.1 rfl (Nat.le_of_ble_eq_true rfl) dX12_breaks_2 ⟨Nat.le_of_ble_eq_true rfl, Nat.le_of_ble_eq_true rfl⟩) (fun r1 u1 H locs hp1 hW => ?_)
  have hc1 : ((r1.toInt = 1 ∧ (0 ≤ a0.toInt ∧ a0.toInt < 3)) ∨ (r1.toInt = 0 ∧ (¬ (0 ≤ a0.toInt ∧ a0.toInt < 3)))) := hp1
  clear hp1
  have hW : WB g A s.heap H locs (J, L, I, P, E, N) (sgM g) := hW
  refine lv_if_ne (tgt := 15) hx hb dX12_breaks_5 (by decide) (fun c2 => ?_) (fun c2 => ?_)
  · have c2 : ¬ r1.toInt = 0 := tne rfl kp0 c2
    refine lv_bipush (v := (-9)) hx hb dX12_breaks_15 (by decide) ?_
    refine lv_istore_n (lv' := [(2, .int (-9)), (0, .ref (g.2.2.1 13)), (1, .int a0)]) hx hb dX12_breaks_17 rfl hl (by decide) rfl (fun ls hl => ?_)
    refine lv_iconst (v := 0) hx hb dX12_breaks_18 (by decide) ?_
    refine lv_istore_n (lv' := [(3, .int 0), (2, .int (-9)), (0, .ref (g.2.2.1 13)), (1, .int a0)]) hx hb dX12_breaks_19 rfl hl (by decide) rfl (fun ls hl => ?_)
    refine lv_iconst (v := 0) hx hb dX12_breaks_20 (by decide) ?_
    refine lv_istore (lv' := [(4, .int 0), (3, .int 0), (2, .int (-9)), (0, .ref (g.2.2.1 13)), (1, .int a0)]) hx hb dX12_breaks_21 hl (by decide) rfl (fun ls hl => ?_)
    have loop23 : ∀ (n : Nat) (m2 : Int32) (m3 : Int32) (m4 : Int32) (H : Heap) (locs : List Loc) (ls : Array Slot), (2000000 - m4.toInt).toNat < n → 0 ≤ m4.toInt ∧ m4.toInt % 2 = 0 ∧ m4.toInt ≤ ((2 ^ min 12 (J 13 32).toInt.toNat : Nat) : Int) ∧ 0 ≤ m3.toInt ∧ m3.toInt ≤ m4.toInt → RKS m2 m3 (BRF (fun t => EXPL (J 101) (Int32.ofNat (2 * t)) (J 112) (J 108) (J 13 35).toInt) (fun t => CB (2 * t) 32) (fun t => ((2 * t : Nat) : Int)) (m4.toInt / 2).toNat) → WB g A s.heap H locs (J, L, I, P, E, N) (sgM g) → lv_has ls 5 [(4, .int m4), (3, .int m3), (2, .int m2), (0, .ref (g.2.2.1 13)), (1, .int a0)] → W p l e (RM (3) 0 0) s m ([.ref (g.2.2.1 13), .int a0] : List Value).toArray below meth c H locs 0 0 (MQ below Q9 ([.ref (g.2.2.1 13), .int a0] : List Value).toArray s 0 0 A) (F0 m 23 ls []) := by
      intro n
      induction n with
      | zero => intro m2 m3 m4 H locs ls hmeas; exact absurd hmeas (Nat.not_lt_zero _)
      | succ n ih =>
        intro m2 m3 m4 H locs ls hmeas hi hbs hW hl
        refine lv_iload hx hb dX12_breaks_23 (lv_at hl 0 rfl) ?_
        refine lv_iconst (v := 1) hx hb dX12_breaks_25 (by decide) ?_
        refine lv_aload_n hx hb dX12_breaks_26 rfl (lv_at hl 3 rfl) ?_
        refine rg_13_32 C hW (mm_ rfl) tw_1055 dX12_breaks_27 ?_
        refine lv_bipush (v := 12) hx hb dX12_breaks_30 (by decide) ?_
        refine lv_icmp_le (tgt := 40) hx hb dX12_breaks_32 (by decide) (fun c3 => ?_) (fun c3 => ?_)
        · have c3 : (J 13 32).toInt ≤ 12 := tle rfl kp12 c3
          refine lv_aload_n hx hb dX12_breaks_40 rfl (lv_at hl 3 rfl) ?_
          refine rg_13_32 C hW (mm_ rfl) tw_1055 dX12_breaks_41 ?_
          refine lv_ishl hx hb dX12_breaks_44 ?_
          refine lv_topi (fun x4 (e4 : x4 = 1 <<< ((J 13 32) &&& 31)) => ?_)
          have t4 := i32r x4
          have hM2 := pow_h (c := min 12 (J 13 32).toInt.toNat) (by omega)
          have hM3 : 2 ^ min 12 (J 13 32).toInt.toNat ≤ 4096 := Nat.pow_le_pow_right (by decide) (show min 12 (J 13 32).toInt.toNat ≤ 12 by omega)
          have hP2 : x4.toInt = ((2 ^ min 12 (J 13 32).toInt.toNat : Nat) : Int) := shl_p (n := min 12 (J 13 32).toInt.toNat) (by omega) (by omega) e4
          refine lv_icmp_ge (tgt := 118) hx hb dX12_breaks_45 (by decide) (fun c5 => ?_) (fun c5 => ?_)
          · have c5 : x4.toInt ≤ m4.toInt := tle rfl rfl c5
            have hbs9 : RKS m2 m3 (BRF (fun t => EXPL (J 101) (Int32.ofNat (2 * t)) (J 112) (J 108) (J 13 35).toInt) (fun t => CB (2 * t) 32) (fun t => ((2 * t : Nat) : Int)) (2 ^ (min 12 (J 13 32).toInt.toNat - 1))) := by (rw [show 2 ^ (min 12 (J 13 32).toInt.toNat - 1) = (m4.toInt / 2).toNat by omega]; exact hbs)
            refine lv_iload_n hx hb dX12_breaks_118 rfl (lv_at hl 2 rfl) ?_
            refine lv_if_ge (tgt := 127) hx hb dX12_breaks_119 (by decide) (fun c6 => ?_) (fun c6 => ?_)
            · have c6 : 0 ≤ m2.toInt := tle kp0 rfl c6
              refine lv_iload_n hx hb dX12_breaks_127 rfl (lv_at hl 4 rfl) ?_
              refine lv_if_ne (tgt := 138) hx hb dX12_breaks_128 (by decide) (fun c7 => ?_) (fun c7 => ?_)
              · have c7 : ¬ a0.toInt = 0 := tne rfl kp0 c7
                refine lv_iload_n hx hb dX12_breaks_138 rfl (lv_at hl 4 rfl) ?_
                refine lv_iconst (v := 1) hx hb dX12_breaks_139 (by decide) ?_
                refine lv_icmp_ne (tgt := 147) hx hb dX12_breaks_140 (by decide) (fun c8 => ?_) (fun c8 => ?_)
                · have c8 : ¬ a0.toInt = 1 := tne rfl kp1 c8
                  refine lv_iload_n hx hb dX12_breaks_147 rfl (lv_at hl 2 rfl) ?_
                  have hWr : WB g A s.heap H locs (hv J [100] [] J, L, I, P, E, N) (sgM g) := by
                    rw [← ag_hvE (J := J) (R := [100]) (F := []) ag_rf]
                    exact hW
                  subst hQ9
                  exact end_i C hr hlocks J hWr (by first | exact Or.inr (⟨by first | rfl | assumption, by omega, show (BKR (BRF (fun t => EXPL (J 101) (Int32.ofNat (2 * t)) (J 112) (J 108) (J 13 35).toInt) (fun t => CB (2 * t) 32) (fun t => ((2 * t : Nat) : Int)) (2 ^ (min 12 (J 13 32).toInt.toNat - 1))) a0.toInt m2.toInt) from (by exact rks_r hbs9 (fun q => by first | rfl | omega | (exfalso; omega)) (fun q => ⟨fun y => by first | omega | (exfalso; omega), fun y => by first | rfl | omega | (exfalso; omega), fun y => by first | rfl | omega | (exfalso; omega)⟩))⟩)) dX12_breaks_148
                · have c8 : a0.toInt = 1 := teq rfl kp1 c8
                  refine lv_iload_n hx hb dX12_breaks_143 rfl (lv_at hl 1 rfl) ?_
                  refine lv_goto (tgt := 148) hx hb dX12_breaks_144 (by decide) ?_
                  have hWr : WB g A s.heap H locs (hv J [100] [] J, L, I, P, E, N) (sgM g) := by
                    rw [← ag_hvE (J := J) (R := [100]) (F := []) ag_rf]
                    exact hW
                  subst hQ9
                  exact end_i C hr hlocks J hWr (by first | exact Or.inr (⟨by first | rfl | assumption, by omega, show (BKR (BRF (fun t => EXPL (J 101) (Int32.ofNat (2 * t)) (J 112) (J 108) (J 13 35).toInt) (fun t => CB (2 * t) 32) (fun t => ((2 * t : Nat) : Int)) (2 ^ (min 12 (J 13 32).toInt.toNat - 1))) a0.toInt m3.toInt) from (by exact rks_r hbs9 (fun q => by first | rfl | omega | (exfalso; omega)) (fun q => ⟨fun y => by first | omega | (exfalso; omega), fun y => by first | rfl | omega | (exfalso; omega), fun y => by first | rfl | omega | (exfalso; omega)⟩))⟩)) dX12_breaks_148
              · have c7 : a0.toInt = 0 := teq rfl kp0 c7
                refine lv_iload_n hx hb dX12_breaks_131 rfl (lv_at hl 2 rfl) ?_
                refine ci_ C hW (runS (As := [.int m2]) (rest := []) (T := ((J, L, I, P, E, N), sgM g)) C hW (c_X12_bits_e l g J L I P E N H.size m2 (show 0 ≤ m2.toInt from (by omega))) mi_X12_bits tw_1460 ⟨rfl, rfl, Nat.le_of_ble_eq_true rfl, Nat.le_of_ble_eq_true rfl⟩ rfl hl.1 rfl (Nat.le_of_ble_eq_true rfl) dX12_breaks_132 ⟨Nat.le_of_ble_eq_true rfl, Nat.le_of_ble_eq_true rfl⟩) (fun r9 u9 H locs hp9 hW => ?_)
                have hf9_0 : (r9.toInt = ((CB (tN m2) 32 : Nat) : Int)) := hp9
                clear hp9
                have hW : WB g A s.heap H locs (J, L, I, P, E, N) (sgM g) := hW
                have hBE := hf9_0
                refine lv_goto (tgt := 148) hx hb dX12_breaks_135 (by decide) ?_
                have hWr : WB g A s.heap H locs (hv J [100] [] J, L, I, P, E, N) (sgM g) := by
                  rw [← ag_hvE (J := J) (R := [100]) (F := []) ag_rf]
                  exact hW
                subst hQ9
                exact end_i C hr hlocks J hWr (by first | exact Or.inr (⟨by first | rfl | assumption, by omega, show (BKR (BRF (fun t => EXPL (J 101) (Int32.ofNat (2 * t)) (J 112) (J 108) (J 13 35).toInt) (fun t => CB (2 * t) 32) (fun t => ((2 * t : Nat) : Int)) (2 ^ (min 12 (J 13 32).toInt.toNat - 1))) a0.toInt r9.toInt) from (by exact rks_r hbs9 (fun q => by first | rfl | omega | (exfalso; omega)) (fun q => ⟨fun y => by first | omega | (exfalso; omega), fun y => by first | rfl | omega | (exfalso; omega), fun y => by first | rfl | omega | (exfalso; omega)⟩))⟩)) dX12_breaks_148
            · have c6 : m2.toInt < 0 := tnle kp0 rfl c6
              refine lv_bipush (v := (-9)) hx hb dX12_breaks_122 (by decide) ?_
              refine lv_goto (tgt := 148) hx hb dX12_breaks_124 (by decide) ?_
              have hWr : WB g A s.heap H locs (hv J [100] [] J, L, I, P, E, N) (sgM g) := by
                rw [← ag_hvE (J := J) (R := [100]) (F := []) ag_rf]
                exact hW
              subst hQ9
              exact end_i C hr hlocks J hWr (by first | exact Or.inr (⟨by first | rfl | assumption, by omega, show (BKR (BRF (fun t => EXPL (J 101) (Int32.ofNat (2 * t)) (J 112) (J 108) (J 13 35).toInt) (fun t => CB (2 * t) 32) (fun t => ((2 * t : Nat) : Int)) (2 ^ (min 12 (J 13 32).toInt.toNat - 1))) a0.toInt (-9)) from (by exact rks_r hbs9 (fun q => by first | rfl | omega | (exfalso; omega)) (fun q => ⟨fun y => by first | omega | (exfalso; omega), fun y => by first | rfl | omega | (exfalso; omega), fun y => by first | rfl | omega | (exfalso; omega)⟩))⟩)) dX12_breaks_148
          · have c5 : m4.toInt < x4.toInt := tnle rfl rfl c5
            refine lv_iload_n hx hb dX12_breaks_48 rfl (lv_at hl 2 rfl) ?_
            refine lv_if_lt (tgt := 64) hx hb dX12_breaks_49 (by decide) (fun c10 => ?_) (fun c10 => ?_)
            · have c10 : m2.toInt < 0 := tlt rfl kp0 c10
              refine lv_aload_n hx hb dX12_breaks_64 rfl (lv_at hl 3 rfl) ?_
              refine lv_iload hx hb dX12_breaks_65 (lv_at hl 0 rfl) ?_
              refine ci_ C hW (runV (x := (g.2.2.1 13)) (As := [.int m4]) (rest := []) (T := ((J, L, I, P, E, N), sgM g)) C hW (c_X12_explains_q l g J L I P E N H.size m4 hwm (show ∀ k : Nat, (J 112 k).toInt = 0 ∨ (J 112 k).toInt = 1 from hc01)) mi_X12_explains tw_1463 (recv_ (T := ((J, L, I, P, E, N), sgM g)) C hW (mm_ rfl) rfl rfl) ⟨rfl, rfl, Nat.le_of_ble_eq_true rfl, Nat.le_of_ble_eq_true rfl⟩ rfl hl.1 rfl (Nat.le_of_ble_eq_true rfl) dX12_breaks_67 ⟨Nat.le_of_ble_eq_true rfl, Nat.le_of_ble_eq_true rfl⟩) (fun r11 u11 H locs hp11 hW => ?_)
              obtain ⟨hc11, hf11_0⟩ : ((r11.toInt = 1) ∨ (r11.toInt = 0)) ∧ (((r11.toInt : Int) = 1 ∧ EXPL (J 101) m4 (J 112) (J 108) (J 13 35).toInt) ∨ ((r11.toInt : Int) = 0 ∧ ¬ EXPL (J 101) m4 (J 112) (J 108) (J 13 35).toInt)) := hp11
              have hW : WB g A s.heap H locs (J, L, I, P, E, N) (sgM g) := hW
              have hEX := hf11_0
              rw [i_ofn (h := m4) (by omega), show m4.toInt.toNat = 2 * (m4.toInt / 2).toNat by omega] at hEX
              refine lv_if_ne (tgt := 76) hx hb dX12_breaks_70 (by decide) (fun c12 => ?_) (fun c12 => ?_)
              · have c12 : ¬ r11.toInt = 0 := tne rfl kp0 c12
                refine lv_iload_n hx hb dX12_breaks_76 rfl (lv_at hl 2 rfl) ?_
                refine lv_if_lt (tgt := 98) hx hb dX12_breaks_77 (by decide) (fun c13 => ?_) (fun c13 => ?_)
                · have c13 : m2.toInt < 0 := tlt rfl kp0 c13
                  refine lv_iconst (v := 1) hx hb dX12_breaks_98 (by decide) ?_
                  refine lv_istore_n (lv' := [(3, .int 1), (4, .int m4), (2, .int m2), (0, .ref (g.2.2.1 13)), (1, .int a0)]) hx hb dX12_breaks_99 rfl hl (by decide) rfl (fun ls hl => ?_)
                  refine lv_iload_n hx hb dX12_breaks_100 rfl (lv_at hl 0 rfl) ?_
                  refine lv_iconst (v := 1) hx hb dX12_breaks_101 (by decide) ?_
                  refine lv_icmp_le (tgt := 109) hx hb dX12_breaks_102 (by decide) (fun c14 => ?_) (fun c14 => ?_)
                  · skip
                    refine lv_iload hx hb dX12_breaks_109 (lv_at hl 1 rfl) ?_
                    refine lv_istore_n (lv' := [(2, .int m4), (3, .int 1), (4, .int m4), (0, .ref (g.2.2.1 13)), (1, .int a0)]) hx hb dX12_breaks_111 rfl hl (by decide) rfl (fun ls hl => ?_)
                    obtain ⟨x15, e15⟩ : ∃ y : Int32, y = m4 + 2 := ⟨_, rfl⟩
                    refine lv_iinc (v := x15) (lv' := [(4, .int x15), (2, .int m4), (3, .int 1), (0, .ref (g.2.2.1 13)), (1, .int a0)]) hx hb dX12_breaks_112 hl (k := 2) rfl (by rw [e15]; rfl) (by decide) rfl (fun ls hl => ?_)
                    try have t15 : x15.toInt = m4.toInt + 2 := tadd e15 rfl kp2 (by omega)
                    refine lv_goto (tgt := 23) hx hb dX12_breaks_115 (by decide) ?_
                    refine ih m4 1 x15 H locs ls ?_ ?_ ?_ hW (lv_sub hl [0, 2, 1, 3, 4] rfl)
                    · show (2000000 - x15.toInt).toNat < n
                      omega
                    · show 0 ≤ x15.toInt ∧ x15.toInt % 2 = 0 ∧ x15.toInt ≤ ((2 ^ min 12 (J 13 32).toInt.toNat : Nat) : Int) ∧ 0 ≤ (1 : Int32).toInt ∧ (1 : Int32).toInt ≤ x15.toInt
                      (have k1 := kp1; omega)
                    · show RKS m4 (1 : Int32) (BRF (fun t => EXPL (J 101) (Int32.ofNat (2 * t)) (J 112) (J 108) (J 13 35).toInt) (fun t => CB (2 * t) 32) (fun t => ((2 * t : Nat) : Int)) (x15.toInt / 2).toNat)
                      (have e9 : ((x15).toInt / 2).toNat = (m4.toInt / 2).toNat + 1 := (by omega); rw [e9]; first | (exfalso; have h9 := rks_1 hbs; omega) | exact rks_l hbs (show CB (2 * (m4.toInt / 2).toNat) 32 = CB (tN m4) 32 by rw [tN_tn (a := m4) (by omega), show m4.toInt.toNat = 2 * (m4.toInt / 2).toNat by omega]) (show CB (2 * (m4.toInt / 2).toNat) 32 < 25 by (have h9 := cb12 (t := 2 * (m4.toInt / 2).toNat) (by omega); omega)) (by first | exact Or.inl (by omega) | exact Or.inr (by omega)) (hEX.elim (fun q => q.2) (fun q => absurd q.1 (by omega))) (by show ((2 * (m4.toInt / 2).toNat : Nat) : Int) = _; omega) (by omega) (by first | rfl | exact kp1))
                  · exact absurd (by decide) c14
                · have c13 : 0 ≤ m2.toInt := tnlt rfl kp0 c13
                  exfalso; omega
              · have c12 : r11.toInt = 0 := teq rfl kp0 c12
                refine lv_goto (tgt := 112) hx hb dX12_breaks_73 (by decide) ?_
                obtain ⟨x16, e16⟩ : ∃ y : Int32, y = m4 + 2 := ⟨_, rfl⟩
                refine lv_iinc (v := x16) (lv' := [(4, .int x16), (3, .int m3), (2, .int m2), (0, .ref (g.2.2.1 13)), (1, .int a0)]) hx hb dX12_breaks_112 hl (k := 0) rfl (by rw [e16]; rfl) (by decide) rfl (fun ls hl => ?_)
                try have t16 : x16.toInt = m4.toInt + 2 := tadd e16 rfl kp2 (by omega)
                refine lv_goto (tgt := 23) hx hb dX12_breaks_115 (by decide) ?_
                refine ih m2 m3 x16 H locs ls ?_ ?_ ?_ hW (lv_sub hl [0, 1, 2, 3, 4] rfl)
                · show (2000000 - x16.toInt).toNat < n
                  omega
                · show 0 ≤ x16.toInt ∧ x16.toInt % 2 = 0 ∧ x16.toInt ≤ ((2 ^ min 12 (J 13 32).toInt.toNat : Nat) : Int) ∧ 0 ≤ m3.toInt ∧ m3.toInt ≤ x16.toInt
                  (have k1 := kp1; omega)
                · show RKS m2 m3 (BRF (fun t => EXPL (J 101) (Int32.ofNat (2 * t)) (J 112) (J 108) (J 13 35).toInt) (fun t => CB (2 * t) 32) (fun t => ((2 * t : Nat) : Int)) (x16.toInt / 2).toNat)
                  (have e9 : ((x16).toInt / 2).toNat = (m4.toInt / 2).toNat + 1 := (by omega); rw [e9]; exact rks_n (s := m4) hbs (show CB (2 * (m4.toInt / 2).toNat) 32 = CB (tN m4) 32 by rw [tN_tn (a := m4) (by omega), show m4.toInt.toNat = 2 * (m4.toInt / 2).toNat by omega]) (Or.inl (hEX.elim (fun q => absurd q.1 (by omega)) (fun q => q.2))))
            · have c10 : 0 ≤ m2.toInt := tnlt rfl kp0 c10
              refine lv_iload hx hb dX12_breaks_52 (lv_at hl 0 rfl) ?_
              refine ci_ C hW (runS (As := [.int m4]) (rest := []) (T := ((J, L, I, P, E, N), sgM g)) C hW (c_X12_bits_e l g J L I P E N H.size m4 (show 0 ≤ m4.toInt from (by omega))) mi_X12_bits tw_1460 ⟨rfl, rfl, Nat.le_of_ble_eq_true rfl, Nat.le_of_ble_eq_true rfl⟩ rfl hl.1 rfl (Nat.le_of_ble_eq_true rfl) dX12_breaks_54 ⟨Nat.le_of_ble_eq_true rfl, Nat.le_of_ble_eq_true rfl⟩) (fun r17 u17 H locs hp17 hW => ?_)
              have hf17_0 : (r17.toInt = ((CB (tN m4) 32 : Nat) : Int)) := hp17
              clear hp17
              have hW : WB g A s.heap H locs (J, L, I, P, E, N) (sgM g) := hW
              have hBA := hf17_0
              refine lv_iload_n hx hb dX12_breaks_57 rfl (lv_at hl 2 rfl) ?_
              refine ci_ C hW (runS (As := [.int m2]) (rest := [.int r17]) (T := ((J, L, I, P, E, N), sgM g)) C hW (c_X12_bits_e l g J L I P E N H.size m2 (show 0 ≤ m2.toInt from (by omega))) mi_X12_bits tw_1460 ⟨rfl, rfl, Nat.le_of_ble_eq_true rfl, Nat.le_of_ble_eq_true rfl⟩ rfl hl.1 rfl (Nat.le_of_ble_eq_true rfl) dX12_breaks_58 ⟨Nat.le_of_ble_eq_true rfl, Nat.le_of_ble_eq_true rfl⟩) (fun r18 u18 H locs hp18 hW => ?_)
              have hf18_0 : (r18.toInt = ((CB (tN m2) 32 : Nat) : Int)) := hp18
              clear hp18
              have hW : WB g A s.heap H locs (J, L, I, P, E, N) (sgM g) := hW
              have hBB := hf18_0
              refine lv_icmp_gt (tgt := 112) hx hb dX12_breaks_61 (by decide) (fun c19 => ?_) (fun c19 => ?_)
              · have c19 : r18.toInt < r17.toInt := tlt rfl rfl c19
                obtain ⟨x20, e20⟩ : ∃ y : Int32, y = m4 + 2 := ⟨_, rfl⟩
                refine lv_iinc (v := x20) (lv' := [(4, .int x20), (3, .int m3), (2, .int m2), (0, .ref (g.2.2.1 13)), (1, .int a0)]) hx hb dX12_breaks_112 hl (k := 0) rfl (by rw [e20]; rfl) (by decide) rfl (fun ls hl => ?_)
                try have t20 : x20.toInt = m4.toInt + 2 := tadd e20 rfl kp2 (by omega)
                refine lv_goto (tgt := 23) hx hb dX12_breaks_115 (by decide) ?_
                refine ih m2 m3 x20 H locs ls ?_ ?_ ?_ hW (lv_sub hl [0, 1, 2, 3, 4] rfl)
                · show (2000000 - x20.toInt).toNat < n
                  omega
                · show 0 ≤ x20.toInt ∧ x20.toInt % 2 = 0 ∧ x20.toInt ≤ ((2 ^ min 12 (J 13 32).toInt.toNat : Nat) : Int) ∧ 0 ≤ m3.toInt ∧ m3.toInt ≤ x20.toInt
                  (have k1 := kp1; omega)
                · show RKS m2 m3 (BRF (fun t => EXPL (J 101) (Int32.ofNat (2 * t)) (J 112) (J 108) (J 13 35).toInt) (fun t => CB (2 * t) 32) (fun t => ((2 * t : Nat) : Int)) (x20.toInt / 2).toNat)
                  (have e9 : ((x20).toInt / 2).toNat = (m4.toInt / 2).toNat + 1 := (by omega); rw [e9]; exact rks_n (s := m4) hbs (show CB (2 * (m4.toInt / 2).toNat) 32 = CB (tN m4) 32 by rw [tN_tn (a := m4) (by omega), show m4.toInt.toNat = 2 * (m4.toInt / 2).toNat by omega]) (Or.inr ⟨by omega, by omega⟩))
              · have c19 : r17.toInt ≤ r18.toInt := tnlt rfl rfl c19
                refine lv_aload_n hx hb dX12_breaks_64 rfl (lv_at hl 3 rfl) ?_
                refine lv_iload hx hb dX12_breaks_65 (lv_at hl 0 rfl) ?_
                refine ci_ C hW (runV (x := (g.2.2.1 13)) (As := [.int m4]) (rest := []) (T := ((J, L, I, P, E, N), sgM g)) C hW (c_X12_explains_q l g J L I P E N H.size m4 hwm (show ∀ k : Nat, (J 112 k).toInt = 0 ∨ (J 112 k).toInt = 1 from hc01)) mi_X12_explains tw_1463 (recv_ (T := ((J, L, I, P, E, N), sgM g)) C hW (mm_ rfl) rfl rfl) ⟨rfl, rfl, Nat.le_of_ble_eq_true rfl, Nat.le_of_ble_eq_true rfl⟩ rfl hl.1 rfl (Nat.le_of_ble_eq_true rfl) dX12_breaks_67 ⟨Nat.le_of_ble_eq_true rfl, Nat.le_of_ble_eq_true rfl⟩) (fun r21 u21 H locs hp21 hW => ?_)
                obtain ⟨hc21, hf21_0⟩ : ((r21.toInt = 1) ∨ (r21.toInt = 0)) ∧ (((r21.toInt : Int) = 1 ∧ EXPL (J 101) m4 (J 112) (J 108) (J 13 35).toInt) ∨ ((r21.toInt : Int) = 0 ∧ ¬ EXPL (J 101) m4 (J 112) (J 108) (J 13 35).toInt)) := hp21
                have hW : WB g A s.heap H locs (J, L, I, P, E, N) (sgM g) := hW
                have hEX := hf21_0
                rw [i_ofn (h := m4) (by omega), show m4.toInt.toNat = 2 * (m4.toInt / 2).toNat by omega] at hEX
                refine lv_if_ne (tgt := 76) hx hb dX12_breaks_70 (by decide) (fun c22 => ?_) (fun c22 => ?_)
                · have c22 : ¬ r21.toInt = 0 := tne rfl kp0 c22
                  refine lv_iload_n hx hb dX12_breaks_76 rfl (lv_at hl 2 rfl) ?_
                  refine lv_if_lt (tgt := 98) hx hb dX12_breaks_77 (by decide) (fun c23 => ?_) (fun c23 => ?_)
                  · have c23 : m2.toInt < 0 := tlt rfl kp0 c23
                    exfalso; omega
                  · have c23 : 0 ≤ m2.toInt := tnlt rfl kp0 c23
                    refine lv_iload hx hb dX12_breaks_80 (lv_at hl 0 rfl) ?_
                    refine ci_ C hW (runS (As := [.int m4]) (rest := []) (T := ((J, L, I, P, E, N), sgM g)) C hW (c_X12_bits_e l g J L I P E N H.size m4 (show 0 ≤ m4.toInt from (by omega))) mi_X12_bits tw_1460 ⟨rfl, rfl, Nat.le_of_ble_eq_true rfl, Nat.le_of_ble_eq_true rfl⟩ rfl hl.1 rfl (Nat.le_of_ble_eq_true rfl) dX12_breaks_82 ⟨Nat.le_of_ble_eq_true rfl, Nat.le_of_ble_eq_true rfl⟩) (fun r24 u24 H locs hp24 hW => ?_)
                    have hf24_0 : (r24.toInt = ((CB (tN m4) 32 : Nat) : Int)) := hp24
                    clear hp24
                    have hW : WB g A s.heap H locs (J, L, I, P, E, N) (sgM g) := hW
                    have hBC := hf24_0
                    refine lv_iload_n hx hb dX12_breaks_85 rfl (lv_at hl 2 rfl) ?_
                    refine ci_ C hW (runS (As := [.int m2]) (rest := [.int r24]) (T := ((J, L, I, P, E, N), sgM g)) C hW (c_X12_bits_e l g J L I P E N H.size m2 (show 0 ≤ m2.toInt from (by omega))) mi_X12_bits tw_1460 ⟨rfl, rfl, Nat.le_of_ble_eq_true rfl, Nat.le_of_ble_eq_true rfl⟩ rfl hl.1 rfl (Nat.le_of_ble_eq_true rfl) dX12_breaks_86 ⟨Nat.le_of_ble_eq_true rfl, Nat.le_of_ble_eq_true rfl⟩) (fun r25 u25 H locs hp25 hW => ?_)
                    have hf25_0 : (r25.toInt = ((CB (tN m2) 32 : Nat) : Int)) := hp25
                    clear hp25
                    have hW : WB g A s.heap H locs (J, L, I, P, E, N) (sgM g) := hW
                    have hBD := hf25_0
                    refine lv_icmp_ne (tgt := 98) hx hb dX12_breaks_89 (by decide) (fun c26 => ?_) (fun c26 => ?_)
                    · have c26 : ¬ r24.toInt = r25.toInt := tne rfl rfl c26
                      refine lv_iconst (v := 1) hx hb dX12_breaks_98 (by decide) ?_
                      refine lv_istore_n (lv' := [(3, .int 1), (4, .int m4), (2, .int m2), (0, .ref (g.2.2.1 13)), (1, .int a0)]) hx hb dX12_breaks_99 rfl hl (by decide) rfl (fun ls hl => ?_)
                      refine lv_iload_n hx hb dX12_breaks_100 rfl (lv_at hl 0 rfl) ?_
                      refine lv_iconst (v := 1) hx hb dX12_breaks_101 (by decide) ?_
                      refine lv_icmp_le (tgt := 109) hx hb dX12_breaks_102 (by decide) (fun c27 => ?_) (fun c27 => ?_)
                      · skip
                        refine lv_iload hx hb dX12_breaks_109 (lv_at hl 1 rfl) ?_
                        refine lv_istore_n (lv' := [(2, .int m4), (3, .int 1), (4, .int m4), (0, .ref (g.2.2.1 13)), (1, .int a0)]) hx hb dX12_breaks_111 rfl hl (by decide) rfl (fun ls hl => ?_)
                        obtain ⟨x28, e28⟩ : ∃ y : Int32, y = m4 + 2 := ⟨_, rfl⟩
                        refine lv_iinc (v := x28) (lv' := [(4, .int x28), (2, .int m4), (3, .int 1), (0, .ref (g.2.2.1 13)), (1, .int a0)]) hx hb dX12_breaks_112 hl (k := 2) rfl (by rw [e28]; rfl) (by decide) rfl (fun ls hl => ?_)
                        try have t28 : x28.toInt = m4.toInt + 2 := tadd e28 rfl kp2 (by omega)
                        refine lv_goto (tgt := 23) hx hb dX12_breaks_115 (by decide) ?_
                        refine ih m4 1 x28 H locs ls ?_ ?_ ?_ hW (lv_sub hl [0, 2, 1, 3, 4] rfl)
                        · show (2000000 - x28.toInt).toNat < n
                          omega
                        · show 0 ≤ x28.toInt ∧ x28.toInt % 2 = 0 ∧ x28.toInt ≤ ((2 ^ min 12 (J 13 32).toInt.toNat : Nat) : Int) ∧ 0 ≤ (1 : Int32).toInt ∧ (1 : Int32).toInt ≤ x28.toInt
                          (have k1 := kp1; omega)
                        · show RKS m4 (1 : Int32) (BRF (fun t => EXPL (J 101) (Int32.ofNat (2 * t)) (J 112) (J 108) (J 13 35).toInt) (fun t => CB (2 * t) 32) (fun t => ((2 * t : Nat) : Int)) (x28.toInt / 2).toNat)
                          (have e9 : ((x28).toInt / 2).toNat = (m4.toInt / 2).toNat + 1 := (by omega); rw [e9]; first | (exfalso; have h9 := rks_1 hbs; omega) | exact rks_l hbs (show CB (2 * (m4.toInt / 2).toNat) 32 = CB (tN m4) 32 by rw [tN_tn (a := m4) (by omega), show m4.toInt.toNat = 2 * (m4.toInt / 2).toNat by omega]) (show CB (2 * (m4.toInt / 2).toNat) 32 < 25 by (have h9 := cb12 (t := 2 * (m4.toInt / 2).toNat) (by omega); omega)) (by first | exact Or.inl (by omega) | exact Or.inr (by omega)) (hEX.elim (fun q => q.2) (fun q => absurd q.1 (by omega))) (by show ((2 * (m4.toInt / 2).toNat : Nat) : Int) = _; omega) (by omega) (by first | rfl | exact kp1))
                      · exact absurd (by decide) c27
                    · have c26 : r24.toInt = r25.toInt := teq rfl rfl c26
                      refine lv_iload_n hx hb dX12_breaks_92 rfl (lv_at hl 1 rfl) ?_
                      refine lv_iconst (v := 1) hx hb dX12_breaks_93 (by decide) ?_
                      refine lv_iadd hx hb dX12_breaks_94 ?_
                      refine lv_topi (fun x29 (e29 : x29 = m3 + 1) => ?_)
                      try have t29 : x29.toInt = m3.toInt + 1 := tadd e29 rfl kp1 (by omega)
                      refine lv_goto (tgt := 99) hx hb dX12_breaks_95 (by decide) ?_
                      refine lv_istore_n (lv' := [(3, .int x29), (4, .int m4), (2, .int m2), (0, .ref (g.2.2.1 13)), (1, .int a0)]) hx hb dX12_breaks_99 rfl hl (by decide) rfl (fun ls hl => ?_)
                      refine lv_iload_n hx hb dX12_breaks_100 rfl (lv_at hl 0 rfl) ?_
                      refine lv_iconst (v := 1) hx hb dX12_breaks_101 (by decide) ?_
                      refine lv_icmp_le (tgt := 109) hx hb dX12_breaks_102 (by decide) (fun c30 => ?_) (fun c30 => ?_)
                      · have c30 : x29.toInt ≤ 1 := tle rfl kp1 c30
                        refine lv_iload hx hb dX12_breaks_109 (lv_at hl 1 rfl) ?_
                        refine lv_istore_n (lv' := [(2, .int m4), (3, .int x29), (4, .int m4), (0, .ref (g.2.2.1 13)), (1, .int a0)]) hx hb dX12_breaks_111 rfl hl (by decide) rfl (fun ls hl => ?_)
                        obtain ⟨x31, e31⟩ : ∃ y : Int32, y = m4 + 2 := ⟨_, rfl⟩
                        refine lv_iinc (v := x31) (lv' := [(4, .int x31), (2, .int m4), (3, .int x29), (0, .ref (g.2.2.1 13)), (1, .int a0)]) hx hb dX12_breaks_112 hl (k := 2) rfl (by rw [e31]; rfl) (by decide) rfl (fun ls hl => ?_)
                        try have t31 : x31.toInt = m4.toInt + 2 := tadd e31 rfl kp2 (by omega)
                        refine lv_goto (tgt := 23) hx hb dX12_breaks_115 (by decide) ?_
                        refine ih m4 x29 x31 H locs ls ?_ ?_ ?_ hW (lv_sub hl [0, 2, 1, 3, 4] rfl)
                        · show (2000000 - x31.toInt).toNat < n
                          omega
                        · show 0 ≤ x31.toInt ∧ x31.toInt % 2 = 0 ∧ x31.toInt ≤ ((2 ^ min 12 (J 13 32).toInt.toNat : Nat) : Int) ∧ 0 ≤ x29.toInt ∧ x29.toInt ≤ x31.toInt
                          (have k1 := kp1; omega)
                        · show RKS m4 x29 (BRF (fun t => EXPL (J 101) (Int32.ofNat (2 * t)) (J 112) (J 108) (J 13 35).toInt) (fun t => CB (2 * t) 32) (fun t => ((2 * t : Nat) : Int)) (x31.toInt / 2).toNat)
                          (have e9 : ((x31).toInt / 2).toNat = (m4.toInt / 2).toNat + 1 := (by omega); rw [e9]; first | (exfalso; have h9 := rks_1 hbs; omega) | exact rks_l hbs (show CB (2 * (m4.toInt / 2).toNat) 32 = CB (tN m4) 32 by rw [tN_tn (a := m4) (by omega), show m4.toInt.toNat = 2 * (m4.toInt / 2).toNat by omega]) (show CB (2 * (m4.toInt / 2).toNat) 32 < 25 by (have h9 := cb12 (t := 2 * (m4.toInt / 2).toNat) (by omega); omega)) (by first | exact Or.inl (by omega) | exact Or.inr (by omega)) (hEX.elim (fun q => q.2) (fun q => absurd q.1 (by omega))) (by show ((2 * (m4.toInt / 2).toNat : Nat) : Int) = _; omega) (by omega) (by first | rfl | exact kp1))
                      · have c30 : 1 < x29.toInt := tnle rfl kp1 c30
                        refine lv_iload_n hx hb dX12_breaks_105 rfl (lv_at hl 2 rfl) ?_
                        refine lv_goto (tgt := 111) hx hb dX12_breaks_106 (by decide) ?_
                        refine lv_istore_n (lv' := [(2, .int m2), (3, .int x29), (4, .int m4), (0, .ref (g.2.2.1 13)), (1, .int a0)]) hx hb dX12_breaks_111 rfl hl (by decide) rfl (fun ls hl => ?_)
                        obtain ⟨x32, e32⟩ : ∃ y : Int32, y = m4 + 2 := ⟨_, rfl⟩
                        refine lv_iinc (v := x32) (lv' := [(4, .int x32), (2, .int m2), (3, .int x29), (0, .ref (g.2.2.1 13)), (1, .int a0)]) hx hb dX12_breaks_112 hl (k := 2) rfl (by rw [e32]; rfl) (by decide) rfl (fun ls hl => ?_)
                        try have t32 : x32.toInt = m4.toInt + 2 := tadd e32 rfl kp2 (by omega)
                        refine lv_goto (tgt := 23) hx hb dX12_breaks_115 (by decide) ?_
                        refine ih m2 x29 x32 H locs ls ?_ ?_ ?_ hW (lv_sub hl [0, 2, 1, 3, 4] rfl)
                        · show (2000000 - x32.toInt).toNat < n
                          omega
                        · show 0 ≤ x32.toInt ∧ x32.toInt % 2 = 0 ∧ x32.toInt ≤ ((2 ^ min 12 (J 13 32).toInt.toNat : Nat) : Int) ∧ 0 ≤ x29.toInt ∧ x29.toInt ≤ x32.toInt
                          (have k1 := kp1; omega)
                        · show RKS m2 x29 (BRF (fun t => EXPL (J 101) (Int32.ofNat (2 * t)) (J 112) (J 108) (J 13 35).toInt) (fun t => CB (2 * t) 32) (fun t => ((2 * t : Nat) : Int)) (x32.toInt / 2).toNat)
                          (have e9 : ((x32).toInt / 2).toNat = (m4.toInt / 2).toNat + 1 := (by omega); rw [e9]; first | (exfalso; omega) | exact rks_e (s := m4) hbs (show CB (2 * (m4.toInt / 2).toNat) 32 = CB (tN m4) 32 by rw [tN_tn (a := m4) (by omega), show m4.toInt.toNat = 2 * (m4.toInt / 2).toNat by omega]) (by omega) (by omega) (hEX.elim (fun q => q.2) (fun q => absurd q.1 (by omega))) (by omega))
                · have c22 : r21.toInt = 0 := teq rfl kp0 c22
                  refine lv_goto (tgt := 112) hx hb dX12_breaks_73 (by decide) ?_
                  obtain ⟨x33, e33⟩ : ∃ y : Int32, y = m4 + 2 := ⟨_, rfl⟩
                  refine lv_iinc (v := x33) (lv' := [(4, .int x33), (3, .int m3), (2, .int m2), (0, .ref (g.2.2.1 13)), (1, .int a0)]) hx hb dX12_breaks_112 hl (k := 0) rfl (by rw [e33]; rfl) (by decide) rfl (fun ls hl => ?_)
                  try have t33 : x33.toInt = m4.toInt + 2 := tadd e33 rfl kp2 (by omega)
                  refine lv_goto (tgt := 23) hx hb dX12_breaks_115 (by decide) ?_
                  refine ih m2 m3 x33 H locs ls ?_ ?_ ?_ hW (lv_sub hl [0, 1, 2, 3, 4] rfl)
                  · show (2000000 - x33.toInt).toNat < n
                    omega
                  · show 0 ≤ x33.toInt ∧ x33.toInt % 2 = 0 ∧ x33.toInt ≤ ((2 ^ min 12 (J 13 32).toInt.toNat : Nat) : Int) ∧ 0 ≤ m3.toInt ∧ m3.toInt ≤ x33.toInt
                    (have k1 := kp1; omega)
                  · show RKS m2 m3 (BRF (fun t => EXPL (J 101) (Int32.ofNat (2 * t)) (J 112) (J 108) (J 13 35).toInt) (fun t => CB (2 * t) 32) (fun t => ((2 * t : Nat) : Int)) (x33.toInt / 2).toNat)
                    (have e9 : ((x33).toInt / 2).toNat = (m4.toInt / 2).toNat + 1 := (by omega); rw [e9]; exact rks_n (s := m4) hbs (show CB (2 * (m4.toInt / 2).toNat) 32 = CB (tN m4) 32 by rw [tN_tn (a := m4) (by omega), show m4.toInt.toNat = 2 * (m4.toInt / 2).toNat by omega]) (Or.inl (hEX.elim (fun q => absurd q.1 (by omega)) (fun q => q.2))))
        · have c3 : 12 < (J 13 32).toInt := tnle rfl kp12 c3
          refine lv_bipush (v := 12) hx hb dX12_breaks_35 (by decide) ?_
          refine lv_goto (tgt := 44) hx hb dX12_breaks_37 (by decide) ?_
          refine lv_ishl hx hb dX12_breaks_44 ?_
          refine lv_topi (fun x34 (e34 : x34 = (1 : Int32) <<< (12 &&& 31)) => ?_)
          have t34 := i32r x34
          have hM2 := pow_h (c := min 12 (J 13 32).toInt.toNat) (by omega)
          have hM3 : 2 ^ min 12 (J 13 32).toInt.toNat ≤ 4096 := Nat.pow_le_pow_right (by decide) (show min 12 (J 13 32).toInt.toNat ≤ 12 by omega)
          have hP2 : x34.toInt = ((2 ^ min 12 (J 13 32).toInt.toNat : Nat) : Int) := by (have h9 := shl_p (n := 12) (by decide) (by decide) e34; rw [show min 12 (J 13 32).toInt.toNat = 12 by omega]; exact h9)
          refine lv_icmp_ge (tgt := 118) hx hb dX12_breaks_45 (by decide) (fun c35 => ?_) (fun c35 => ?_)
          · have c35 : x34.toInt ≤ m4.toInt := tle rfl rfl c35
            have hbs9 : RKS m2 m3 (BRF (fun t => EXPL (J 101) (Int32.ofNat (2 * t)) (J 112) (J 108) (J 13 35).toInt) (fun t => CB (2 * t) 32) (fun t => ((2 * t : Nat) : Int)) (2 ^ (min 12 (J 13 32).toInt.toNat - 1))) := by (rw [show 2 ^ (min 12 (J 13 32).toInt.toNat - 1) = (m4.toInt / 2).toNat by omega]; exact hbs)
            refine lv_iload_n hx hb dX12_breaks_118 rfl (lv_at hl 2 rfl) ?_
            refine lv_if_ge (tgt := 127) hx hb dX12_breaks_119 (by decide) (fun c36 => ?_) (fun c36 => ?_)
            · have c36 : 0 ≤ m2.toInt := tle kp0 rfl c36
              refine lv_iload_n hx hb dX12_breaks_127 rfl (lv_at hl 4 rfl) ?_
              refine lv_if_ne (tgt := 138) hx hb dX12_breaks_128 (by decide) (fun c37 => ?_) (fun c37 => ?_)
              · have c37 : ¬ a0.toInt = 0 := tne rfl kp0 c37
                refine lv_iload_n hx hb dX12_breaks_138 rfl (lv_at hl 4 rfl) ?_
                refine lv_iconst (v := 1) hx hb dX12_breaks_139 (by decide) ?_
                refine lv_icmp_ne (tgt := 147) hx hb dX12_breaks_140 (by decide) (fun c38 => ?_) (fun c38 => ?_)
                · have c38 : ¬ a0.toInt = 1 := tne rfl kp1 c38
                  refine lv_iload_n hx hb dX12_breaks_147 rfl (lv_at hl 2 rfl) ?_
                  have hWr : WB g A s.heap H locs (hv J [100] [] J, L, I, P, E, N) (sgM g) := by
                    rw [← ag_hvE (J := J) (R := [100]) (F := []) ag_rf]
                    exact hW
                  subst hQ9
                  exact end_i C hr hlocks J hWr (by first | exact Or.inr (⟨by first | rfl | assumption, by omega, show (BKR (BRF (fun t => EXPL (J 101) (Int32.ofNat (2 * t)) (J 112) (J 108) (J 13 35).toInt) (fun t => CB (2 * t) 32) (fun t => ((2 * t : Nat) : Int)) (2 ^ (min 12 (J 13 32).toInt.toNat - 1))) a0.toInt m2.toInt) from (by exact rks_r hbs9 (fun q => by first | rfl | omega | (exfalso; omega)) (fun q => ⟨fun y => by first | omega | (exfalso; omega), fun y => by first | rfl | omega | (exfalso; omega), fun y => by first | rfl | omega | (exfalso; omega)⟩))⟩)) dX12_breaks_148
                · have c38 : a0.toInt = 1 := teq rfl kp1 c38
                  refine lv_iload_n hx hb dX12_breaks_143 rfl (lv_at hl 1 rfl) ?_
                  refine lv_goto (tgt := 148) hx hb dX12_breaks_144 (by decide) ?_
                  have hWr : WB g A s.heap H locs (hv J [100] [] J, L, I, P, E, N) (sgM g) := by
                    rw [← ag_hvE (J := J) (R := [100]) (F := []) ag_rf]
                    exact hW
                  subst hQ9
                  exact end_i C hr hlocks J hWr (by first | exact Or.inr (⟨by first | rfl | assumption, by omega, show (BKR (BRF (fun t => EXPL (J 101) (Int32.ofNat (2 * t)) (J 112) (J 108) (J 13 35).toInt) (fun t => CB (2 * t) 32) (fun t => ((2 * t : Nat) : Int)) (2 ^ (min 12 (J 13 32).toInt.toNat - 1))) a0.toInt m3.toInt) from (by exact rks_r hbs9 (fun q => by first | rfl | omega | (exfalso; omega)) (fun q => ⟨fun y => by first | omega | (exfalso; omega), fun y => by first | rfl | omega | (exfalso; omega), fun y => by first | rfl | omega | (exfalso; omega)⟩))⟩)) dX12_breaks_148
              · have c37 : a0.toInt = 0 := teq rfl kp0 c37
                refine lv_iload_n hx hb dX12_breaks_131 rfl (lv_at hl 2 rfl) ?_
                refine ci_ C hW (runS (As := [.int m2]) (rest := []) (T := ((J, L, I, P, E, N), sgM g)) C hW (c_X12_bits_e l g J L I P E N H.size m2 (show 0 ≤ m2.toInt from (by omega))) mi_X12_bits tw_1460 ⟨rfl, rfl, Nat.le_of_ble_eq_true rfl, Nat.le_of_ble_eq_true rfl⟩ rfl hl.1 rfl (Nat.le_of_ble_eq_true rfl) dX12_breaks_132 ⟨Nat.le_of_ble_eq_true rfl, Nat.le_of_ble_eq_true rfl⟩) (fun r39 u39 H locs hp39 hW => ?_)
                have hf39_0 : (r39.toInt = ((CB (tN m2) 32 : Nat) : Int)) := hp39
                clear hp39
                have hW : WB g A s.heap H locs (J, L, I, P, E, N) (sgM g) := hW
                have hBE := hf39_0
                refine lv_goto (tgt := 148) hx hb dX12_breaks_135 (by decide) ?_
                have hWr : WB g A s.heap H locs (hv J [100] [] J, L, I, P, E, N) (sgM g) := by
                  rw [← ag_hvE (J := J) (R := [100]) (F := []) ag_rf]
                  exact hW
                subst hQ9
                exact end_i C hr hlocks J hWr (by first | exact Or.inr (⟨by first | rfl | assumption, by omega, show (BKR (BRF (fun t => EXPL (J 101) (Int32.ofNat (2 * t)) (J 112) (J 108) (J 13 35).toInt) (fun t => CB (2 * t) 32) (fun t => ((2 * t : Nat) : Int)) (2 ^ (min 12 (J 13 32).toInt.toNat - 1))) a0.toInt r39.toInt) from (by exact rks_r hbs9 (fun q => by first | rfl | omega | (exfalso; omega)) (fun q => ⟨fun y => by first | omega | (exfalso; omega), fun y => by first | rfl | omega | (exfalso; omega), fun y => by first | rfl | omega | (exfalso; omega)⟩))⟩)) dX12_breaks_148
            · have c36 : m2.toInt < 0 := tnle kp0 rfl c36
              refine lv_bipush (v := (-9)) hx hb dX12_breaks_122 (by decide) ?_
              refine lv_goto (tgt := 148) hx hb dX12_breaks_124 (by decide) ?_
              have hWr : WB g A s.heap H locs (hv J [100] [] J, L, I, P, E, N) (sgM g) := by
                rw [← ag_hvE (J := J) (R := [100]) (F := []) ag_rf]
                exact hW
              subst hQ9
              exact end_i C hr hlocks J hWr (by first | exact Or.inr (⟨by first | rfl | assumption, by omega, show (BKR (BRF (fun t => EXPL (J 101) (Int32.ofNat (2 * t)) (J 112) (J 108) (J 13 35).toInt) (fun t => CB (2 * t) 32) (fun t => ((2 * t : Nat) : Int)) (2 ^ (min 12 (J 13 32).toInt.toNat - 1))) a0.toInt (-9)) from (by exact rks_r hbs9 (fun q => by first | rfl | omega | (exfalso; omega)) (fun q => ⟨fun y => by first | omega | (exfalso; omega), fun y => by first | rfl | omega | (exfalso; omega), fun y => by first | rfl | omega | (exfalso; omega)⟩))⟩)) dX12_breaks_148
          · have c35 : m4.toInt < x34.toInt := tnle rfl rfl c35
            refine lv_iload_n hx hb dX12_breaks_48 rfl (lv_at hl 2 rfl) ?_
            refine lv_if_lt (tgt := 64) hx hb dX12_breaks_49 (by decide) (fun c40 => ?_) (fun c40 => ?_)
            · have c40 : m2.toInt < 0 := tlt rfl kp0 c40
              refine lv_aload_n hx hb dX12_breaks_64 rfl (lv_at hl 3 rfl) ?_
              refine lv_iload hx hb dX12_breaks_65 (lv_at hl 0 rfl) ?_
              refine ci_ C hW (runV (x := (g.2.2.1 13)) (As := [.int m4]) (rest := []) (T := ((J, L, I, P, E, N), sgM g)) C hW (c_X12_explains_q l g J L I P E N H.size m4 hwm (show ∀ k : Nat, (J 112 k).toInt = 0 ∨ (J 112 k).toInt = 1 from hc01)) mi_X12_explains tw_1463 (recv_ (T := ((J, L, I, P, E, N), sgM g)) C hW (mm_ rfl) rfl rfl) ⟨rfl, rfl, Nat.le_of_ble_eq_true rfl, Nat.le_of_ble_eq_true rfl⟩ rfl hl.1 rfl (Nat.le_of_ble_eq_true rfl) dX12_breaks_67 ⟨Nat.le_of_ble_eq_true rfl, Nat.le_of_ble_eq_true rfl⟩) (fun r41 u41 H locs hp41 hW => ?_)
              obtain ⟨hc41, hf41_0⟩ : ((r41.toInt = 1) ∨ (r41.toInt = 0)) ∧ (((r41.toInt : Int) = 1 ∧ EXPL (J 101) m4 (J 112) (J 108) (J 13 35).toInt) ∨ ((r41.toInt : Int) = 0 ∧ ¬ EXPL (J 101) m4 (J 112) (J 108) (J 13 35).toInt)) := hp41
              have hW : WB g A s.heap H locs (J, L, I, P, E, N) (sgM g) := hW
              have hEX := hf41_0
              rw [i_ofn (h := m4) (by omega), show m4.toInt.toNat = 2 * (m4.toInt / 2).toNat by omega] at hEX
              refine lv_if_ne (tgt := 76) hx hb dX12_breaks_70 (by decide) (fun c42 => ?_) (fun c42 => ?_)
              · have c42 : ¬ r41.toInt = 0 := tne rfl kp0 c42
                refine lv_iload_n hx hb dX12_breaks_76 rfl (lv_at hl 2 rfl) ?_
                refine lv_if_lt (tgt := 98) hx hb dX12_breaks_77 (by decide) (fun c43 => ?_) (fun c43 => ?_)
                · have c43 : m2.toInt < 0 := tlt rfl kp0 c43
                  refine lv_iconst (v := 1) hx hb dX12_breaks_98 (by decide) ?_
                  refine lv_istore_n (lv' := [(3, .int 1), (4, .int m4), (2, .int m2), (0, .ref (g.2.2.1 13)), (1, .int a0)]) hx hb dX12_breaks_99 rfl hl (by decide) rfl (fun ls hl => ?_)
                  refine lv_iload_n hx hb dX12_breaks_100 rfl (lv_at hl 0 rfl) ?_
                  refine lv_iconst (v := 1) hx hb dX12_breaks_101 (by decide) ?_
                  refine lv_icmp_le (tgt := 109) hx hb dX12_breaks_102 (by decide) (fun c44 => ?_) (fun c44 => ?_)
                  · skip
                    refine lv_iload hx hb dX12_breaks_109 (lv_at hl 1 rfl) ?_
                    refine lv_istore_n (lv' := [(2, .int m4), (3, .int 1), (4, .int m4), (0, .ref (g.2.2.1 13)), (1, .int a0)]) hx hb dX12_breaks_111 rfl hl (by decide) rfl (fun ls hl => ?_)
                    obtain ⟨x45, e45⟩ : ∃ y : Int32, y = m4 + 2 := ⟨_, rfl⟩
                    refine lv_iinc (v := x45) (lv' := [(4, .int x45), (2, .int m4), (3, .int 1), (0, .ref (g.2.2.1 13)), (1, .int a0)]) hx hb dX12_breaks_112 hl (k := 2) rfl (by rw [e45]; rfl) (by decide) rfl (fun ls hl => ?_)
                    try have t45 : x45.toInt = m4.toInt + 2 := tadd e45 rfl kp2 (by omega)
                    refine lv_goto (tgt := 23) hx hb dX12_breaks_115 (by decide) ?_
                    refine ih m4 1 x45 H locs ls ?_ ?_ ?_ hW (lv_sub hl [0, 2, 1, 3, 4] rfl)
                    · show (2000000 - x45.toInt).toNat < n
                      omega
                    · show 0 ≤ x45.toInt ∧ x45.toInt % 2 = 0 ∧ x45.toInt ≤ ((2 ^ min 12 (J 13 32).toInt.toNat : Nat) : Int) ∧ 0 ≤ (1 : Int32).toInt ∧ (1 : Int32).toInt ≤ x45.toInt
                      (have k1 := kp1; omega)
                    · show RKS m4 (1 : Int32) (BRF (fun t => EXPL (J 101) (Int32.ofNat (2 * t)) (J 112) (J 108) (J 13 35).toInt) (fun t => CB (2 * t) 32) (fun t => ((2 * t : Nat) : Int)) (x45.toInt / 2).toNat)
                      (have e9 : ((x45).toInt / 2).toNat = (m4.toInt / 2).toNat + 1 := (by omega); rw [e9]; first | (exfalso; have h9 := rks_1 hbs; omega) | exact rks_l hbs (show CB (2 * (m4.toInt / 2).toNat) 32 = CB (tN m4) 32 by rw [tN_tn (a := m4) (by omega), show m4.toInt.toNat = 2 * (m4.toInt / 2).toNat by omega]) (show CB (2 * (m4.toInt / 2).toNat) 32 < 25 by (have h9 := cb12 (t := 2 * (m4.toInt / 2).toNat) (by omega); omega)) (by first | exact Or.inl (by omega) | exact Or.inr (by omega)) (hEX.elim (fun q => q.2) (fun q => absurd q.1 (by omega))) (by show ((2 * (m4.toInt / 2).toNat : Nat) : Int) = _; omega) (by omega) (by first | rfl | exact kp1))
                  · exact absurd (by decide) c44
                · have c43 : 0 ≤ m2.toInt := tnlt rfl kp0 c43
                  exfalso; omega
              · have c42 : r41.toInt = 0 := teq rfl kp0 c42
                refine lv_goto (tgt := 112) hx hb dX12_breaks_73 (by decide) ?_
                obtain ⟨x46, e46⟩ : ∃ y : Int32, y = m4 + 2 := ⟨_, rfl⟩
                refine lv_iinc (v := x46) (lv' := [(4, .int x46), (3, .int m3), (2, .int m2), (0, .ref (g.2.2.1 13)), (1, .int a0)]) hx hb dX12_breaks_112 hl (k := 0) rfl (by rw [e46]; rfl) (by decide) rfl (fun ls hl => ?_)
                try have t46 : x46.toInt = m4.toInt + 2 := tadd e46 rfl kp2 (by omega)
                refine lv_goto (tgt := 23) hx hb dX12_breaks_115 (by decide) ?_
                refine ih m2 m3 x46 H locs ls ?_ ?_ ?_ hW (lv_sub hl [0, 1, 2, 3, 4] rfl)
                · show (2000000 - x46.toInt).toNat < n
                  omega
                · show 0 ≤ x46.toInt ∧ x46.toInt % 2 = 0 ∧ x46.toInt ≤ ((2 ^ min 12 (J 13 32).toInt.toNat : Nat) : Int) ∧ 0 ≤ m3.toInt ∧ m3.toInt ≤ x46.toInt
                  (have k1 := kp1; omega)
                · show RKS m2 m3 (BRF (fun t => EXPL (J 101) (Int32.ofNat (2 * t)) (J 112) (J 108) (J 13 35).toInt) (fun t => CB (2 * t) 32) (fun t => ((2 * t : Nat) : Int)) (x46.toInt / 2).toNat)
                  (have e9 : ((x46).toInt / 2).toNat = (m4.toInt / 2).toNat + 1 := (by omega); rw [e9]; exact rks_n (s := m4) hbs (show CB (2 * (m4.toInt / 2).toNat) 32 = CB (tN m4) 32 by rw [tN_tn (a := m4) (by omega), show m4.toInt.toNat = 2 * (m4.toInt / 2).toNat by omega]) (Or.inl (hEX.elim (fun q => absurd q.1 (by omega)) (fun q => q.2))))
            · have c40 : 0 ≤ m2.toInt := tnlt rfl kp0 c40
              refine lv_iload hx hb dX12_breaks_52 (lv_at hl 0 rfl) ?_
              refine ci_ C hW (runS (As := [.int m4]) (rest := []) (T := ((J, L, I, P, E, N), sgM g)) C hW (c_X12_bits_e l g J L I P E N H.size m4 (show 0 ≤ m4.toInt from (by omega))) mi_X12_bits tw_1460 ⟨rfl, rfl, Nat.le_of_ble_eq_true rfl, Nat.le_of_ble_eq_true rfl⟩ rfl hl.1 rfl (Nat.le_of_ble_eq_true rfl) dX12_breaks_54 ⟨Nat.le_of_ble_eq_true rfl, Nat.le_of_ble_eq_true rfl⟩) (fun r47 u47 H locs hp47 hW => ?_)
              have hf47_0 : (r47.toInt = ((CB (tN m4) 32 : Nat) : Int)) := hp47
              clear hp47
              have hW : WB g A s.heap H locs (J, L, I, P, E, N) (sgM g) := hW
              have hBA := hf47_0
              refine lv_iload_n hx hb dX12_breaks_57 rfl (lv_at hl 2 rfl) ?_
              refine ci_ C hW (runS (As := [.int m2]) (rest := [.int r47]) (T := ((J, L, I, P, E, N), sgM g)) C hW (c_X12_bits_e l g J L I P E N H.size m2 (show 0 ≤ m2.toInt from (by omega))) mi_X12_bits tw_1460 ⟨rfl, rfl, Nat.le_of_ble_eq_true rfl, Nat.le_of_ble_eq_true rfl⟩ rfl hl.1 rfl (Nat.le_of_ble_eq_true rfl) dX12_breaks_58 ⟨Nat.le_of_ble_eq_true rfl, Nat.le_of_ble_eq_true rfl⟩) (fun r48 u48 H locs hp48 hW => ?_)
              have hf48_0 : (r48.toInt = ((CB (tN m2) 32 : Nat) : Int)) := hp48
              clear hp48
              have hW : WB g A s.heap H locs (J, L, I, P, E, N) (sgM g) := hW
              have hBB := hf48_0
              refine lv_icmp_gt (tgt := 112) hx hb dX12_breaks_61 (by decide) (fun c49 => ?_) (fun c49 => ?_)
              · have c49 : r48.toInt < r47.toInt := tlt rfl rfl c49
                obtain ⟨x50, e50⟩ : ∃ y : Int32, y = m4 + 2 := ⟨_, rfl⟩
                refine lv_iinc (v := x50) (lv' := [(4, .int x50), (3, .int m3), (2, .int m2), (0, .ref (g.2.2.1 13)), (1, .int a0)]) hx hb dX12_breaks_112 hl (k := 0) rfl (by rw [e50]; rfl) (by decide) rfl (fun ls hl => ?_)
                try have t50 : x50.toInt = m4.toInt + 2 := tadd e50 rfl kp2 (by omega)
                refine lv_goto (tgt := 23) hx hb dX12_breaks_115 (by decide) ?_
                refine ih m2 m3 x50 H locs ls ?_ ?_ ?_ hW (lv_sub hl [0, 1, 2, 3, 4] rfl)
                · show (2000000 - x50.toInt).toNat < n
                  omega
                · show 0 ≤ x50.toInt ∧ x50.toInt % 2 = 0 ∧ x50.toInt ≤ ((2 ^ min 12 (J 13 32).toInt.toNat : Nat) : Int) ∧ 0 ≤ m3.toInt ∧ m3.toInt ≤ x50.toInt
                  (have k1 := kp1; omega)
                · show RKS m2 m3 (BRF (fun t => EXPL (J 101) (Int32.ofNat (2 * t)) (J 112) (J 108) (J 13 35).toInt) (fun t => CB (2 * t) 32) (fun t => ((2 * t : Nat) : Int)) (x50.toInt / 2).toNat)
                  (have e9 : ((x50).toInt / 2).toNat = (m4.toInt / 2).toNat + 1 := (by omega); rw [e9]; exact rks_n (s := m4) hbs (show CB (2 * (m4.toInt / 2).toNat) 32 = CB (tN m4) 32 by rw [tN_tn (a := m4) (by omega), show m4.toInt.toNat = 2 * (m4.toInt / 2).toNat by omega]) (Or.inr ⟨by omega, by omega⟩))
              · have c49 : r47.toInt ≤ r48.toInt := tnlt rfl rfl c49
                refine lv_aload_n hx hb dX12_breaks_64 rfl (lv_at hl 3 rfl) ?_
                refine lv_iload hx hb dX12_breaks_65 (lv_at hl 0 rfl) ?_
                refine ci_ C hW (runV (x := (g.2.2.1 13)) (As := [.int m4]) (rest := []) (T := ((J, L, I, P, E, N), sgM g)) C hW (c_X12_explains_q l g J L I P E N H.size m4 hwm (show ∀ k : Nat, (J 112 k).toInt = 0 ∨ (J 112 k).toInt = 1 from hc01)) mi_X12_explains tw_1463 (recv_ (T := ((J, L, I, P, E, N), sgM g)) C hW (mm_ rfl) rfl rfl) ⟨rfl, rfl, Nat.le_of_ble_eq_true rfl, Nat.le_of_ble_eq_true rfl⟩ rfl hl.1 rfl (Nat.le_of_ble_eq_true rfl) dX12_breaks_67 ⟨Nat.le_of_ble_eq_true rfl, Nat.le_of_ble_eq_true rfl⟩) (fun r51 u51 H locs hp51 hW => ?_)
                obtain ⟨hc51, hf51_0⟩ : ((r51.toInt = 1) ∨ (r51.toInt = 0)) ∧ (((r51.toInt : Int) = 1 ∧ EXPL (J 101) m4 (J 112) (J 108) (J 13 35).toInt) ∨ ((r51.toInt : Int) = 0 ∧ ¬ EXPL (J 101) m4 (J 112) (J 108) (J 13 35).toInt)) := hp51
                have hW : WB g A s.heap H locs (J, L, I, P, E, N) (sgM g) := hW
                have hEX := hf51_0
                rw [i_ofn (h := m4) (by omega), show m4.toInt.toNat = 2 * (m4.toInt / 2).toNat by omega] at hEX
                refine lv_if_ne (tgt := 76) hx hb dX12_breaks_70 (by decide) (fun c52 => ?_) (fun c52 => ?_)
                · have c52 : ¬ r51.toInt = 0 := tne rfl kp0 c52
                  refine lv_iload_n hx hb dX12_breaks_76 rfl (lv_at hl 2 rfl) ?_
                  refine lv_if_lt (tgt := 98) hx hb dX12_breaks_77 (by decide) (fun c53 => ?_) (fun c53 => ?_)
                  · have c53 : m2.toInt < 0 := tlt rfl kp0 c53
                    exfalso; omega
                  · have c53 : 0 ≤ m2.toInt := tnlt rfl kp0 c53
                    refine lv_iload hx hb dX12_breaks_80 (lv_at hl 0 rfl) ?_
                    refine ci_ C hW (runS (As := [.int m4]) (rest := []) (T := ((J, L, I, P, E, N), sgM g)) C hW (c_X12_bits_e l g J L I P E N H.size m4 (show 0 ≤ m4.toInt from (by omega))) mi_X12_bits tw_1460 ⟨rfl, rfl, Nat.le_of_ble_eq_true rfl, Nat.le_of_ble_eq_true rfl⟩ rfl hl.1 rfl (Nat.le_of_ble_eq_true rfl) dX12_breaks_82 ⟨Nat.le_of_ble_eq_true rfl, Nat.le_of_ble_eq_true rfl⟩) (fun r54 u54 H locs hp54 hW => ?_)
                    have hf54_0 : (r54.toInt = ((CB (tN m4) 32 : Nat) : Int)) := hp54
                    clear hp54
                    have hW : WB g A s.heap H locs (J, L, I, P, E, N) (sgM g) := hW
                    have hBC := hf54_0
                    refine lv_iload_n hx hb dX12_breaks_85 rfl (lv_at hl 2 rfl) ?_
                    refine ci_ C hW (runS (As := [.int m2]) (rest := [.int r54]) (T := ((J, L, I, P, E, N), sgM g)) C hW (c_X12_bits_e l g J L I P E N H.size m2 (show 0 ≤ m2.toInt from (by omega))) mi_X12_bits tw_1460 ⟨rfl, rfl, Nat.le_of_ble_eq_true rfl, Nat.le_of_ble_eq_true rfl⟩ rfl hl.1 rfl (Nat.le_of_ble_eq_true rfl) dX12_breaks_86 ⟨Nat.le_of_ble_eq_true rfl, Nat.le_of_ble_eq_true rfl⟩) (fun r55 u55 H locs hp55 hW => ?_)
                    have hf55_0 : (r55.toInt = ((CB (tN m2) 32 : Nat) : Int)) := hp55
                    clear hp55
                    have hW : WB g A s.heap H locs (J, L, I, P, E, N) (sgM g) := hW
                    have hBD := hf55_0
                    refine lv_icmp_ne (tgt := 98) hx hb dX12_breaks_89 (by decide) (fun c56 => ?_) (fun c56 => ?_)
                    · have c56 : ¬ r54.toInt = r55.toInt := tne rfl rfl c56
                      refine lv_iconst (v := 1) hx hb dX12_breaks_98 (by decide) ?_
                      refine lv_istore_n (lv' := [(3, .int 1), (4, .int m4), (2, .int m2), (0, .ref (g.2.2.1 13)), (1, .int a0)]) hx hb dX12_breaks_99 rfl hl (by decide) rfl (fun ls hl => ?_)
                      refine lv_iload_n hx hb dX12_breaks_100 rfl (lv_at hl 0 rfl) ?_
                      refine lv_iconst (v := 1) hx hb dX12_breaks_101 (by decide) ?_
                      refine lv_icmp_le (tgt := 109) hx hb dX12_breaks_102 (by decide) (fun c57 => ?_) (fun c57 => ?_)
                      · skip
                        refine lv_iload hx hb dX12_breaks_109 (lv_at hl 1 rfl) ?_
                        refine lv_istore_n (lv' := [(2, .int m4), (3, .int 1), (4, .int m4), (0, .ref (g.2.2.1 13)), (1, .int a0)]) hx hb dX12_breaks_111 rfl hl (by decide) rfl (fun ls hl => ?_)
                        obtain ⟨x58, e58⟩ : ∃ y : Int32, y = m4 + 2 := ⟨_, rfl⟩
                        refine lv_iinc (v := x58) (lv' := [(4, .int x58), (2, .int m4), (3, .int 1), (0, .ref (g.2.2.1 13)), (1, .int a0)]) hx hb dX12_breaks_112 hl (k := 2) rfl (by rw [e58]; rfl) (by decide) rfl (fun ls hl => ?_)
                        try have t58 : x58.toInt = m4.toInt + 2 := tadd e58 rfl kp2 (by omega)
                        refine lv_goto (tgt := 23) hx hb dX12_breaks_115 (by decide) ?_
                        refine ih m4 1 x58 H locs ls ?_ ?_ ?_ hW (lv_sub hl [0, 2, 1, 3, 4] rfl)
                        · show (2000000 - x58.toInt).toNat < n
                          omega
                        · show 0 ≤ x58.toInt ∧ x58.toInt % 2 = 0 ∧ x58.toInt ≤ ((2 ^ min 12 (J 13 32).toInt.toNat : Nat) : Int) ∧ 0 ≤ (1 : Int32).toInt ∧ (1 : Int32).toInt ≤ x58.toInt
                          (have k1 := kp1; omega)
                        · show RKS m4 (1 : Int32) (BRF (fun t => EXPL (J 101) (Int32.ofNat (2 * t)) (J 112) (J 108) (J 13 35).toInt) (fun t => CB (2 * t) 32) (fun t => ((2 * t : Nat) : Int)) (x58.toInt / 2).toNat)
                          (have e9 : ((x58).toInt / 2).toNat = (m4.toInt / 2).toNat + 1 := (by omega); rw [e9]; first | (exfalso; have h9 := rks_1 hbs; omega) | exact rks_l hbs (show CB (2 * (m4.toInt / 2).toNat) 32 = CB (tN m4) 32 by rw [tN_tn (a := m4) (by omega), show m4.toInt.toNat = 2 * (m4.toInt / 2).toNat by omega]) (show CB (2 * (m4.toInt / 2).toNat) 32 < 25 by (have h9 := cb12 (t := 2 * (m4.toInt / 2).toNat) (by omega); omega)) (by first | exact Or.inl (by omega) | exact Or.inr (by omega)) (hEX.elim (fun q => q.2) (fun q => absurd q.1 (by omega))) (by show ((2 * (m4.toInt / 2).toNat : Nat) : Int) = _; omega) (by omega) (by first | rfl | exact kp1))
                      · exact absurd (by decide) c57
                    · have c56 : r54.toInt = r55.toInt := teq rfl rfl c56
                      refine lv_iload_n hx hb dX12_breaks_92 rfl (lv_at hl 1 rfl) ?_
                      refine lv_iconst (v := 1) hx hb dX12_breaks_93 (by decide) ?_
                      refine lv_iadd hx hb dX12_breaks_94 ?_
                      refine lv_topi (fun x59 (e59 : x59 = m3 + 1) => ?_)
                      try have t59 : x59.toInt = m3.toInt + 1 := tadd e59 rfl kp1 (by omega)
                      refine lv_goto (tgt := 99) hx hb dX12_breaks_95 (by decide) ?_
                      refine lv_istore_n (lv' := [(3, .int x59), (4, .int m4), (2, .int m2), (0, .ref (g.2.2.1 13)), (1, .int a0)]) hx hb dX12_breaks_99 rfl hl (by decide) rfl (fun ls hl => ?_)
                      refine lv_iload_n hx hb dX12_breaks_100 rfl (lv_at hl 0 rfl) ?_
                      refine lv_iconst (v := 1) hx hb dX12_breaks_101 (by decide) ?_
                      refine lv_icmp_le (tgt := 109) hx hb dX12_breaks_102 (by decide) (fun c60 => ?_) (fun c60 => ?_)
                      · have c60 : x59.toInt ≤ 1 := tle rfl kp1 c60
                        refine lv_iload hx hb dX12_breaks_109 (lv_at hl 1 rfl) ?_
                        refine lv_istore_n (lv' := [(2, .int m4), (3, .int x59), (4, .int m4), (0, .ref (g.2.2.1 13)), (1, .int a0)]) hx hb dX12_breaks_111 rfl hl (by decide) rfl (fun ls hl => ?_)
                        obtain ⟨x61, e61⟩ : ∃ y : Int32, y = m4 + 2 := ⟨_, rfl⟩
                        refine lv_iinc (v := x61) (lv' := [(4, .int x61), (2, .int m4), (3, .int x59), (0, .ref (g.2.2.1 13)), (1, .int a0)]) hx hb dX12_breaks_112 hl (k := 2) rfl (by rw [e61]; rfl) (by decide) rfl (fun ls hl => ?_)
                        try have t61 : x61.toInt = m4.toInt + 2 := tadd e61 rfl kp2 (by omega)
                        refine lv_goto (tgt := 23) hx hb dX12_breaks_115 (by decide) ?_
                        refine ih m4 x59 x61 H locs ls ?_ ?_ ?_ hW (lv_sub hl [0, 2, 1, 3, 4] rfl)
                        · show (2000000 - x61.toInt).toNat < n
                          omega
                        · show 0 ≤ x61.toInt ∧ x61.toInt % 2 = 0 ∧ x61.toInt ≤ ((2 ^ min 12 (J 13 32).toInt.toNat : Nat) : Int) ∧ 0 ≤ x59.toInt ∧ x59.toInt ≤ x61.toInt
                          (have k1 := kp1; omega)
                        · show RKS m4 x59 (BRF (fun t => EXPL (J 101) (Int32.ofNat (2 * t)) (J 112) (J 108) (J 13 35).toInt) (fun t => CB (2 * t) 32) (fun t => ((2 * t : Nat) : Int)) (x61.toInt / 2).toNat)
                          (have e9 : ((x61).toInt / 2).toNat = (m4.toInt / 2).toNat + 1 := (by omega); rw [e9]; first | (exfalso; have h9 := rks_1 hbs; omega) | exact rks_l hbs (show CB (2 * (m4.toInt / 2).toNat) 32 = CB (tN m4) 32 by rw [tN_tn (a := m4) (by omega), show m4.toInt.toNat = 2 * (m4.toInt / 2).toNat by omega]) (show CB (2 * (m4.toInt / 2).toNat) 32 < 25 by (have h9 := cb12 (t := 2 * (m4.toInt / 2).toNat) (by omega); omega)) (by first | exact Or.inl (by omega) | exact Or.inr (by omega)) (hEX.elim (fun q => q.2) (fun q => absurd q.1 (by omega))) (by show ((2 * (m4.toInt / 2).toNat : Nat) : Int) = _; omega) (by omega) (by first | rfl | exact kp1))
                      · have c60 : 1 < x59.toInt := tnle rfl kp1 c60
                        refine lv_iload_n hx hb dX12_breaks_105 rfl (lv_at hl 2 rfl) ?_
                        refine lv_goto (tgt := 111) hx hb dX12_breaks_106 (by decide) ?_
                        refine lv_istore_n (lv' := [(2, .int m2), (3, .int x59), (4, .int m4), (0, .ref (g.2.2.1 13)), (1, .int a0)]) hx hb dX12_breaks_111 rfl hl (by decide) rfl (fun ls hl => ?_)
                        obtain ⟨x62, e62⟩ : ∃ y : Int32, y = m4 + 2 := ⟨_, rfl⟩
                        refine lv_iinc (v := x62) (lv' := [(4, .int x62), (2, .int m2), (3, .int x59), (0, .ref (g.2.2.1 13)), (1, .int a0)]) hx hb dX12_breaks_112 hl (k := 2) rfl (by rw [e62]; rfl) (by decide) rfl (fun ls hl => ?_)
                        try have t62 : x62.toInt = m4.toInt + 2 := tadd e62 rfl kp2 (by omega)
                        refine lv_goto (tgt := 23) hx hb dX12_breaks_115 (by decide) ?_
                        refine ih m2 x59 x62 H locs ls ?_ ?_ ?_ hW (lv_sub hl [0, 2, 1, 3, 4] rfl)
                        · show (2000000 - x62.toInt).toNat < n
                          omega
                        · show 0 ≤ x62.toInt ∧ x62.toInt % 2 = 0 ∧ x62.toInt ≤ ((2 ^ min 12 (J 13 32).toInt.toNat : Nat) : Int) ∧ 0 ≤ x59.toInt ∧ x59.toInt ≤ x62.toInt
                          (have k1 := kp1; omega)
                        · show RKS m2 x59 (BRF (fun t => EXPL (J 101) (Int32.ofNat (2 * t)) (J 112) (J 108) (J 13 35).toInt) (fun t => CB (2 * t) 32) (fun t => ((2 * t : Nat) : Int)) (x62.toInt / 2).toNat)
                          (have e9 : ((x62).toInt / 2).toNat = (m4.toInt / 2).toNat + 1 := (by omega); rw [e9]; first | (exfalso; omega) | exact rks_e (s := m4) hbs (show CB (2 * (m4.toInt / 2).toNat) 32 = CB (tN m4) 32 by rw [tN_tn (a := m4) (by omega), show m4.toInt.toNat = 2 * (m4.toInt / 2).toNat by omega]) (by omega) (by omega) (hEX.elim (fun q => q.2) (fun q => absurd q.1 (by omega))) (by omega))
                · have c52 : r51.toInt = 0 := teq rfl kp0 c52
                  refine lv_goto (tgt := 112) hx hb dX12_breaks_73 (by decide) ?_
                  obtain ⟨x63, e63⟩ : ∃ y : Int32, y = m4 + 2 := ⟨_, rfl⟩
                  refine lv_iinc (v := x63) (lv' := [(4, .int x63), (3, .int m3), (2, .int m2), (0, .ref (g.2.2.1 13)), (1, .int a0)]) hx hb dX12_breaks_112 hl (k := 0) rfl (by rw [e63]; rfl) (by decide) rfl (fun ls hl => ?_)
                  try have t63 : x63.toInt = m4.toInt + 2 := tadd e63 rfl kp2 (by omega)
                  refine lv_goto (tgt := 23) hx hb dX12_breaks_115 (by decide) ?_
                  refine ih m2 m3 x63 H locs ls ?_ ?_ ?_ hW (lv_sub hl [0, 1, 2, 3, 4] rfl)
                  · show (2000000 - x63.toInt).toNat < n
                    omega
                  · show 0 ≤ x63.toInt ∧ x63.toInt % 2 = 0 ∧ x63.toInt ≤ ((2 ^ min 12 (J 13 32).toInt.toNat : Nat) : Int) ∧ 0 ≤ m3.toInt ∧ m3.toInt ≤ x63.toInt
                    (have k1 := kp1; omega)
                  · show RKS m2 m3 (BRF (fun t => EXPL (J 101) (Int32.ofNat (2 * t)) (J 112) (J 108) (J 13 35).toInt) (fun t => CB (2 * t) 32) (fun t => ((2 * t : Nat) : Int)) (x63.toInt / 2).toNat)
                    (have e9 : ((x63).toInt / 2).toNat = (m4.toInt / 2).toNat + 1 := (by omega); rw [e9]; exact rks_n (s := m4) hbs (show CB (2 * (m4.toInt / 2).toNat) 32 = CB (tN m4) 32 by rw [tN_tn (a := m4) (by omega), show m4.toInt.toNat = 2 * (m4.toInt / 2).toNat by omega]) (Or.inl (hEX.elim (fun q => absurd q.1 (by omega)) (fun q => q.2))))
    -- into the loop
    refine loop23 ((2000000 - (0 : Int32).toInt).toNat + 1) (-9) 0 0 H locs ls ?_ ?_ ?_ hW (lv_sub hl [0, 1, 2, 3, 4] rfl)
    · exact Nat.lt_succ_self _
    · show 0 ≤ (0 : Int32).toInt ∧ (0 : Int32).toInt % 2 = 0 ∧ (0 : Int32).toInt ≤ ((2 ^ min 12 (J 13 32).toInt.toNat : Nat) : Int) ∧ 0 ≤ (0 : Int32).toInt ∧ (0 : Int32).toInt ≤ (0 : Int32).toInt
      try rw [kn9]
      try rw [kp0]
      try rw [kp0]
      (have h9 : 0 < 2 ^ min 12 (J 13 32).toInt.toNat := Nat.pow_pos (by decide); first | omega | exact ⟨by decide, by decide, by omega, by decide, by decide⟩)
    · show RKS ((-9) : Int32) (0 : Int32) (BRF (fun t => EXPL (J 101) (Int32.ofNat (2 * t)) (J 112) (J 108) (J 13 35).toInt) (fun t => CB (2 * t) 32) (fun t => ((2 * t : Nat) : Int)) ((0 : Int32).toInt / 2).toNat)
      try rw [kn9]
      try rw [kp0]
      try rw [kp0]
      exact Or.inl ⟨by decide, rfl⟩
  · have c2 : r1.toInt = 0 := teq rfl kp0 c2
    refine lv_aload_n hx hb dX12_breaks_8 rfl (lv_at hl 0 rfl) ?_
    refine lv_bipush (v := (-2)) hx hb dX12_breaks_9 (by decide) ?_
    refine ci_ C hW (runV (x := (g.2.2.1 13)) (As := [.int (-2)]) (rest := []) (T := ((J, L, I, P, E, N), sgM g)) C hW (c_X12_refuse l g J L I P E N H.size (-2) (show -6 ≤ (-2 : Int32).toInt ∧ (-2 : Int32).toInt ≤ -1 from by (try simp only [kn2]); omega)) mi_X12_refuse tw_1239 (recv_ (T := ((J, L, I, P, E, N), sgM g)) C hW (mm_ rfl) rfl rfl) ⟨rfl, rfl, Nat.le_of_ble_eq_true rfl, Nat.le_of_ble_eq_true rfl⟩ rfl hl.1 rfl (Nat.le_of_ble_eq_true rfl) dX12_breaks_11 ⟨Nat.le_of_ble_eq_true rfl, Nat.le_of_ble_eq_true rfl⟩) (fun r64 u64 H locs hp64 hW => ?_)
    have hc64 : ((r64 = (-2))) := hp64
    clear hp64
    have hr64 : r64.toInt = (-2) := by rw [hc64]; exact kn2
    have hW : WB g A s.heap H locs ((hv J [100] [] u64), L, I, P, E, N) (sgM g) := hW
    have hWr : WB g A s.heap H locs (hv J [100] [] (hv J [100] [] u64), L, I, P, E, N) (sgM g) := by
      rw [← ag_hvE (J := J) (R := [100]) (F := []) (ag_hv rfl rfl ag_rf)]
      exact hW
    subst hQ9
    exact end_i C hr hlocks (hv J [100] [] u64) hWr (by first | exact Or.inl ⟨by omega, by omega⟩) dX12_breaks_14

set_option maxHeartbeats 4000000 in
set_option maxRecDepth 100000 in
theorem c_X12_complain_q (l : Launch) (g : gG) (J : Nat → Nat → Int32) (L : Nat → Nat → Int64) (I : Nat → Nat → Nat → Int32) (P : Nat → Nat → Nat → Option Nat) (E : Nat → Option Nat) (N : Nat → Nat) (sz : Nat) (a0 : Int32) (a1 : Int32) (hwm : WM J) (hb01 : a1 = 0 ∨ a1 = 1) : Met l yX12_complain (WS yX12_complain cX12_complain 4 (some .int)) (RM (3) 0 0) (PC g [.ref (g.2.2.1 13), .int a0, .int a1] ((J, L, I, P, E, N), sgM g) sz) (va_Qi (fun (r : Int32) (u : (Nat → Nat → Int32)) => ((r.toInt = (-1) ∧ (¬ (0 ≤ a0.toInt ∧ a0.toInt < (J 13 35).toInt)) ∧ u 112 = J 112) ∨ (r.toInt = 0 ∧ (0 ≤ a0.toInt ∧ a0.toInt < (J 13 35).toInt ∧ (J 112 a0.toNatClampNeg).toInt = a1.toInt) ∧ u 112 = up2 J 112 a0.toNatClampNeg a1 112) ∨ (r.toInt = 1 ∧ (0 ≤ a0.toInt ∧ a0.toInt < (J 13 35).toInt ∧ ¬ (J 112 a0.toNatClampNeg).toInt = a1.toInt) ∧ u 112 = up2 J 112 a0.toNatClampNeg a1 112)) ∧ (a1 = 0 ∨ a1 = 1)) (fun u t => at_ g (FR g ((J, L, I, P, E, N), sgM g) sz) ((hv J [100, 112] [] u, L, I, P, E, N), sgM g) t) (FR g ((J, L, I, P, E, N), sgM g) sz)) 0 0 (FR g ((J, L, I, P, E, N), sgM g) sz) := by
  refine ent (by decide +kernel) (Nat.le_of_ble_eq_true rfl) ?_
  intro p e s m below meth c ls hsz C hW hr hlocks hname hl
  generalize FR g ((J, L, I, P, E, N), sgM g) sz = A at C hW ⊢
  generalize hQ9 : (va_Qi (fun (r : Int32) (u : (Nat → Nat → Int32)) => ((r.toInt = (-1) ∧ (¬ (0 ≤ a0.toInt ∧ a0.toInt < (J 13 35).toInt)) ∧ u 112 = J 112) ∨ (r.toInt = 0 ∧ (0 ≤ a0.toInt ∧ a0.toInt < (J 13 35).toInt ∧ (J 112 a0.toNatClampNeg).toInt = a1.toInt) ∧ u 112 = up2 J 112 a0.toNatClampNeg a1 112) ∨ (r.toInt = 1 ∧ (0 ≤ a0.toInt ∧ a0.toInt < (J 13 35).toInt ∧ ¬ (J 112 a0.toNatClampNeg).toInt = a1.toInt) ∧ u 112 = up2 J 112 a0.toNatClampNeg a1 112)) ∧ (a1 = 0 ∨ a1 = 1)) (fun u t => at_ g A ((hv J [100, 112] [] u, L, I, P, E, N), sgM g) t) A) = Q9
  have hx := C.1.1
  have hb := C.1.2.1
  have hts := C.1.2.2.2.2
  have hW : WB g A s.heap s.heap [] (J, L, I, P, E, N) (sgM g) := hW
  have hl : lv_has ls 4 [(0, .ref (g.2.2.1 13)), (1, .int a0), (2, .int a1)] := hl
  obtain ⟨H, hH⟩ : ∃ H : Heap, H = s.heap := ⟨_, rfl⟩
  obtain ⟨locs, hlocs⟩ : ∃ q : List Loc, q = [] := ⟨_, rfl⟩
  have hW : WB g A s.heap H locs (J, L, I, P, E, N) (sgM g) := by rw [hH, hlocs]; exact hW
  obtain ⟨⟨hnd1, hnd2, hon, hhm1, hhm2, hhN, hcu1, hcu2, hco1, hco2, hcN⟩, ⟨hrd1, hrd2⟩, ⟨hnw1, hnw2, hns1, hns2, hof⟩, ⟨htm1, htm2, hts_⟩, ⟨had1, had2, hrw1, hrw2, htp1, htp2⟩⟩ := id hwm
  refine start_ hH hlocs ?_
  refine lv_aload_n hx hb dX12_complain_0 rfl (lv_at hl 0 rfl) ?_
  refine lv_iload_n hx hb dX12_complain_1 rfl (lv_at hl 1 rfl) ?_
  refine ci_ C hW (runV (x := (g.2.2.1 13)) (As := [.int a0]) (rest := []) (T := ((J, L, I, P, E, N), sgM g)) C hW (c_X12_isHome l g J L I P E N H.size a0 hwm) mi_X12_isHome tw_1298 (recv_ (T := ((J, L, I, P, E, N), sgM g)) C hW (mm_ rfl) rfl rfl) ⟨rfl, rfl, Nat.le_of_ble_eq_true rfl, Nat.le_of_ble_eq_true rfl⟩ rfl hl.1 rfl (Nat.le_of_ble_eq_true rfl) dX12_complain_2 ⟨Nat.le_of_ble_eq_true rfl, Nat.le_of_ble_eq_true rfl⟩) (fun r1 u1 H locs hp1 hW => ?_)
  have hc1 : ((r1.toInt = 1 ∧ (0 ≤ a0.toInt ∧ a0.toInt < (J 13 35).toInt)) ∨ (r1.toInt = 0 ∧ (¬ (0 ≤ a0.toInt ∧ a0.toInt < (J 13 35).toInt)))) := hp1
  clear hp1
  have hW : WB g A s.heap H locs (J, L, I, P, E, N) (sgM g) := hW
  refine lv_if_ne (tgt := 14) hx hb dX12_complain_5 (by decide) (fun c2 => ?_) (fun c2 => ?_)
  · have c2 : ¬ r1.toInt = 0 := tne rfl kp0 c2
    refine lv_aload_n hx hb dX12_complain_14 rfl (lv_at hl 0 rfl) ?_
    refine rg_13_12 C hW (mm_ rfl) tw_1035 dX12_complain_15 ?_
    refine lv_iload_n hx hb dX12_complain_18 rfl (lv_at hl 1 rfl) ?_
    have hin : vp_in a0 40 := tin rfl (by omega)
    refine ra_112 C hW (mm_ rfl) hin dX12_complain_19 ?_
    refine lv_topi (fun x3 (e3 : x3 = J 112 a0.toNatClampNeg) => ?_)
    have t3 : x3.toInt = (J 112 a0.toNatClampNeg).toInt := by rw [e3]
    refine lv_istore_n (lv' := [(3, .int x3), (0, .ref (g.2.2.1 13)), (1, .int a0), (2, .int a1)]) hx hb dX12_complain_20 rfl hl (by decide) rfl (fun ls hl => ?_)
    refine lv_aload_n hx hb dX12_complain_21 rfl (lv_at hl 1 rfl) ?_
    refine rg_13_12 C hW (mm_ rfl) tw_1035 dX12_complain_22 ?_
    refine lv_iload_n hx hb dX12_complain_25 rfl (lv_at hl 2 rfl) ?_
    refine lv_iload_n hx hb dX12_complain_26 rfl (lv_at hl 3 rfl) ?_
    have hin : vp_in a0 40 := tin rfl (by omega)
    refine rs_112 C hW (mm_ rfl) (y := a1) (vnb (hb01)) hin dX12_complain_27 (fun H locs hW => ?_)
    refine lv_iload_n hx hb dX12_complain_28 rfl (lv_at hl 0 rfl) ?_
    refine lv_iload_n hx hb dX12_complain_29 rfl (lv_at hl 3 rfl) ?_
    refine lv_icmp_ne (tgt := 37) hx hb dX12_complain_30 (by decide) (fun c4 => ?_) (fun c4 => ?_)
    · have c4 : ¬ x3.toInt = a1.toInt := tne rfl rfl c4
      refine lv_iconst (v := 1) hx hb dX12_complain_37 (by decide) ?_
      have hWr : WB g A s.heap H locs (hv J [100, 112] [] (up2 J 112 a0.toNatClampNeg a1), L, I, P, E, N) (sgM g) := by
        rw [← ag_hvE (J := J) (R := [100, 112]) (F := []) (ag_up (Or.inl rfl) ag_rf)]
        exact hW
      subst hQ9
      exact end_i C hr hlocks (up2 J 112 a0.toNatClampNeg a1) hWr ⟨by first | exact Or.inr (Or.inr (⟨by decide, by omega, show (up2 J 112 a0.toNatClampNeg a1) 112 = up2 J 112 a0.toNatClampNeg a1 112 from by first | rfl | assumption⟩)), show a1 = 0 ∨ a1 = 1 from by exact hb01⟩ dX12_complain_38
    · have c4 : x3.toInt = a1.toInt := teq rfl rfl c4
      refine lv_iconst (v := 0) hx hb dX12_complain_33 (by decide) ?_
      refine lv_goto (tgt := 38) hx hb dX12_complain_34 (by decide) ?_
      have hWr : WB g A s.heap H locs (hv J [100, 112] [] (up2 J 112 a0.toNatClampNeg a1), L, I, P, E, N) (sgM g) := by
        rw [← ag_hvE (J := J) (R := [100, 112]) (F := []) (ag_up (Or.inl rfl) ag_rf)]
        exact hW
      subst hQ9
      exact end_i C hr hlocks (up2 J 112 a0.toNatClampNeg a1) hWr ⟨by first | exact Or.inr (Or.inl ⟨by decide, by omega, show (up2 J 112 a0.toNatClampNeg a1) 112 = up2 J 112 a0.toNatClampNeg a1 112 from by first | rfl | assumption⟩), show a1 = 0 ∨ a1 = 1 from by exact hb01⟩ dX12_complain_38
  · have c2 : r1.toInt = 0 := teq rfl kp0 c2
    refine lv_aload_n hx hb dX12_complain_8 rfl (lv_at hl 0 rfl) ?_
    refine lv_iconst (v := (-1)) hx hb dX12_complain_9 (by decide) ?_
    refine ci_ C hW (runV (x := (g.2.2.1 13)) (As := [.int (-1)]) (rest := []) (T := ((J, L, I, P, E, N), sgM g)) C hW (c_X12_refuse l g J L I P E N H.size (-1) (show -6 ≤ (-1 : Int32).toInt ∧ (-1 : Int32).toInt ≤ -1 from by (try simp only [kn1]); omega)) mi_X12_refuse tw_1239 (recv_ (T := ((J, L, I, P, E, N), sgM g)) C hW (mm_ rfl) rfl rfl) ⟨rfl, rfl, Nat.le_of_ble_eq_true rfl, Nat.le_of_ble_eq_true rfl⟩ rfl hl.1 rfl (Nat.le_of_ble_eq_true rfl) dX12_complain_10 ⟨Nat.le_of_ble_eq_true rfl, Nat.le_of_ble_eq_true rfl⟩) (fun r5 u5 H locs hp5 hW => ?_)
    have hc5 : ((r5 = (-1))) := hp5
    clear hp5
    have hr5 : r5.toInt = (-1) := by rw [hc5]; exact kn1
    have hW : WB g A s.heap H locs ((hv J [100] [] u5), L, I, P, E, N) (sgM g) := hW
    have hWr : WB g A s.heap H locs (hv J [100, 112] [] (hv J [100] [] u5), L, I, P, E, N) (sgM g) := by
      rw [← ag_hvE (J := J) (R := [100, 112]) (F := []) (ag_hv rfl rfl ag_rf)]
      exact hW
    subst hQ9
    exact end_i C hr hlocks (hv J [100] [] u5) hWr ⟨by first | exact Or.inl ⟨by omega, by omega, show J 112 = J 112 from by first | rfl | assumption⟩ | exact Or.inr (Or.inl ⟨by omega, by omega, show J 112 = up2 J 112 a0.toNatClampNeg a1 112 from by first | rfl | assumption⟩) | exact Or.inr (Or.inr (⟨by omega, by omega, show J 112 = up2 J 112 a0.toNatClampNeg a1 112 from by first | rfl | assumption⟩)) | (rcases hc1 with qhc1 | qhc1 <;> first | exact Or.inl ⟨by omega, by omega, show J 112 = J 112 from by first | rfl | assumption⟩ | exact Or.inr (Or.inl ⟨by omega, by omega, show J 112 = up2 J 112 a0.toNatClampNeg a1 112 from by first | rfl | assumption⟩) | exact Or.inr (Or.inr (⟨by omega, by omega, show J 112 = up2 J 112 a0.toNatClampNeg a1 112 from by first | rfl | assumption⟩)) | (exfalso; omega)), show a1 = 0 ∨ a1 = 1 from by exact hb01⟩ dX12_complain_13
