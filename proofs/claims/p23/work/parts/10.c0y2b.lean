set_option maxHeartbeats 4000000 in
set_option maxRecDepth 100000 in
theorem c_X12_asks_e (l : Launch) (g : gG) (J : Nat → Nat → Int32) (L : Nat → Nat → Int64) (I : Nat → Nat → Nat → Int32) (P : Nat → Nat → Nat → Option Nat) (E : Nat → Option Nat) (N : Nat → Nat) (sz : Nat) (a0 : Int32) (a1 : Int32) (hwm : WM J) (hm : 0 ≤ a0.toInt ∧ a0.toInt < 10000) : Met l yX12_asks (WS yX12_asks cX12_asks 4 none) (RM (4) 0 0) (PC g [.ref (g.2.2.1 13), .int a0, .int a1] ((J, L, I, P, E, N), sgM g) sz) (va_Qv (fun (u : (Nat → Nat → Int32)) => (∃ y y2 : Nat → Int32, (¬ (J 116 a0.toNatClampNeg).toInt = 6 → SND y (J 101) (J 102) (J 103) (J 104) (fun k => 0 ≤ a0.toInt ∧ CUTP (J 105) (J 106) (J 107) (J 13 34).toInt a0.toInt k) (J 118 a0.toNatClampNeg) (J 120 a0.toNatClampNeg) (J 13 32).toInt) ∧ SND y2 (J 101) (J 102) (J 103) (J 104) (fun k => 0 ≤ (-1 : Int32).toInt ∧ CUTP (J 105) (J 106) (J 107) (J 13 34).toInt (-1 : Int32).toInt k) a1 (J 13 33) (J 13 32).toInt ∧ (∀ h : Nat, (h : Int) < (J 13 35).toInt → (¬ (u 165 h).toInt = 0 ↔ 0 < (HFM (J 116 a0.toNatClampNeg) (J 110) (J 111) a0.toInt (J 13 36) (J 109) (J 108) y) h)) ∧ ∀ h : Nat, (h : Int) < (J 13 35).toInt → (¬ (u 166 h).toInt = 0 ↔ (J 13 36).toInt ≤ (y2 (J 108 h).toNatClampNeg / J 109 h).toInt))) (fun u t => at_ g (FR g ((J, L, I, P, E, N), sgM g) sz) ((hv J [146, 165, 166] [] u, L, I, P, E, N), sgM g) t) (FR g ((J, L, I, P, E, N), sgM g) sz)) 0 0 (FR g ((J, L, I, P, E, N), sgM g) sz) := by
  refine ent (by decide +kernel) (Nat.le_of_ble_eq_true rfl) ?_
  intro p e s m below meth c ls hsz C hW hr hlocks hname hl
  generalize FR g ((J, L, I, P, E, N), sgM g) sz = A at C hW ⊢
  generalize hQ9 : (va_Qv (fun (u : (Nat → Nat → Int32)) => (∃ y y2 : Nat → Int32, (¬ (J 116 a0.toNatClampNeg).toInt = 6 → SND y (J 101) (J 102) (J 103) (J 104) (fun k => 0 ≤ a0.toInt ∧ CUTP (J 105) (J 106) (J 107) (J 13 34).toInt a0.toInt k) (J 118 a0.toNatClampNeg) (J 120 a0.toNatClampNeg) (J 13 32).toInt) ∧ SND y2 (J 101) (J 102) (J 103) (J 104) (fun k => 0 ≤ (-1 : Int32).toInt ∧ CUTP (J 105) (J 106) (J 107) (J 13 34).toInt (-1 : Int32).toInt k) a1 (J 13 33) (J 13 32).toInt ∧ (∀ h : Nat, (h : Int) < (J 13 35).toInt → (¬ (u 165 h).toInt = 0 ↔ 0 < (HFM (J 116 a0.toNatClampNeg) (J 110) (J 111) a0.toInt (J 13 36) (J 109) (J 108) y) h)) ∧ ∀ h : Nat, (h : Int) < (J 13 35).toInt → (¬ (u 166 h).toInt = 0 ↔ (J 13 36).toInt ≤ (y2 (J 108 h).toNatClampNeg / J 109 h).toInt))) (fun u t => at_ g A ((hv J [146, 165, 166] [] u, L, I, P, E, N), sgM g) t) A) = Q9
  have hx := C.1.1
  have hb := C.1.2.1
  have hts := C.1.2.2.2.2
  have hW : WB g A s.heap s.heap [] (J, L, I, P, E, N) (sgM g) := hW
  have hl : lv_has ls 4 [(0, .ref (g.2.2.1 13)), (1, .int a0), (2, .int a1)] := hl
  obtain ⟨H, hH⟩ : ∃ H : Heap, H = s.heap := ⟨_, rfl⟩
  obtain ⟨locs, hlocs⟩ : ∃ q : List Loc, q = [] := ⟨_, rfl⟩
  have hW : WB g A s.heap H locs (J, L, I, P, E, N) (sgM g) := by rw [hH, hlocs]; exact hW
  obtain ⟨⟨hnd1, hnd2, hon, hhm1, hhm2, hhN, hcu1, hcu2, hco1, hco2, hcN⟩, ⟨hrd1, hrd2⟩, ⟨hnw1, hnw2, hns1, hns2, hof⟩, ⟨htm1, htm2, hts_⟩, ⟨had1, had2, hrw1, hrw2, htp1, htp2⟩⟩ := id hwm
  refine start_ hH hlocs ?_
  refine lv_aload_n hx hb dX12_asks_0 rfl (lv_at hl 0 rfl) ?_
  refine rg_13_16 C hW (mm_ rfl) tw_1039 dX12_asks_1 ?_
  refine lv_iload_n hx hb dX12_asks_4 rfl (lv_at hl 1 rfl) ?_
  have hin : vp_in a0 10000 := tin rfl (by omega)
  refine ra_116 C hW (mm_ rfl) hin dX12_asks_5 ?_
  refine lv_topi (fun x1 (e1 : x1 = J 116 a0.toNatClampNeg) => ?_)
  have t1 : x1.toInt = (J 116 a0.toNatClampNeg).toInt := by rw [e1]
  refine lv_bipush (v := 6) hx hb dX12_asks_6 (by decide) ?_
  refine lv_icmp_eq (tgt := 28) hx hb dX12_asks_8 (by decide) (fun c2 => ?_) (fun c2 => ?_)
  · have c2 : x1.toInt = 6 := teq rfl kp6 c2
    refine lv_iconst (v := 0) hx hb dX12_asks_28 (by decide) ?_
    refine lv_istore_n (lv' := [(3, .int 0), (0, .ref (g.2.2.1 13)), (1, .int a0), (2, .int a1)]) hx hb dX12_asks_29 rfl hl (by decide) rfl (fun ls hl => ?_)
    have loop30 : ∀ (n : Nat) (m3 : Int32) (Gl3 : Nat → Nat → Int32) (H : Heap) (locs : List Loc) (ls : Array Slot), (40 - m3.toInt).toNat < n → 0 ≤ m3.toInt ∧ m3.toInt ≤ (J 13 35).toInt → (∀ h : Nat, (h : Int) < m3.toInt → (¬ (Gl3 165 h).toInt = 0 ↔ 0 < (HFM (J 116 a0.toNatClampNeg) (J 110) (J 111) a0.toInt (J 13 36) (J 109) (J 108) (J 146)) h)) → WB g A s.heap H locs ((hv J [165] [] Gl3), L, I, P, E, N) (sgM g) → lv_has ls 4 [(3, .int m3), (0, .ref (g.2.2.1 13)), (1, .int a0), (2, .int a1)] → W p l e (RM (4) 0 0) s m ([.ref (g.2.2.1 13), .int a0, .int a1] : List Value).toArray below meth c H locs 0 0 (MQ below Q9 ([.ref (g.2.2.1 13), .int a0, .int a1] : List Value).toArray s 0 0 A) (F0 m 30 ls []) := by
      intro n
      induction n with
      | zero => intro m3 Gl3 H locs ls hmeas; exact absurd hmeas (Nat.not_lt_zero _)
      | succ n ih =>
        intro m3 Gl3 H locs ls hmeas hi hh hW hl
        refine lv_iload_n hx hb dX12_asks_30 rfl (lv_at hl 0 rfl) ?_
        refine lv_aload_n hx hb dX12_asks_31 rfl (lv_at hl 1 rfl) ?_
        refine rg_13_35 C hW (mm_ rfl) tw_1058 dX12_asks_32 ?_
        refine lv_as (J 13 35) rfl ?_
        refine lv_icmp_ge (tgt := 83) hx hb dX12_asks_35 (by decide) (fun c4 => ?_) (fun c4 => ?_)
        · have c4 : (J 13 35).toInt ≤ m3.toInt := tle rfl rfl c4
          have hh9 : ∀ h : Nat, (h : Int) < (J 13 35).toInt → (¬ (Gl3 165 h).toInt = 0 ↔ 0 < (HFM (J 116 a0.toNatClampNeg) (J 110) (J 111) a0.toInt (J 13 36) (J 109) (J 108) (J 146)) h) := fun h9 q9 => hh h9 (by omega)
          refine lv_aload_n hx hb dX12_asks_83 rfl (lv_at hl 1 rfl) ?_
          refine lv_iload_n hx hb dX12_asks_84 rfl (lv_at hl 3 rfl) ?_
          refine lv_aload_n hx hb dX12_asks_85 rfl (lv_at hl 1 rfl) ?_
          refine rg_13_33 C hW (mm_ rfl) tw_1056 dX12_asks_86 ?_
          refine lv_as (J 13 33) rfl ?_
          refine lv_iconst (v := (-1)) hx hb dX12_asks_89 (by decide) ?_
          refine cv_ C hW (runV (x := (g.2.2.1 13)) (As := [.int a1, .int (J 13 33), .int (-1)]) (rest := []) (T := (((hv J [165] [] Gl3), L, I, P, E, N), sgM g)) C hW (c_X12_sounds_e l g (hv J [165] [] Gl3) L I P E N H.size a1 (J 13 33) (-1) hwm) mi_X12_sounds tw_1277 (recv_ (T := (((hv J [165] [] Gl3), L, I, P, E, N), sgM g)) C hW (mm_ rfl) rfl rfl) ⟨rfl, rfl, Nat.le_of_ble_eq_true rfl, Nat.le_of_ble_eq_true rfl⟩ rfl hl.1 rfl (Nat.le_of_ble_eq_true rfl) dX12_asks_90 ⟨Nat.le_of_ble_eq_true rfl, Nat.le_of_ble_eq_true rfl⟩) (fun u5 H locs hp5 hW => ?_)
          have hf5_0 : (SND (u5 146) (J 101) (J 102) (J 103) (J 104) (fun k => 0 ≤ (-1 : Int32).toInt ∧ CUTP (J 105) (J 106) (J 107) (J 13 34).toInt (-1 : Int32).toInt k) a1 (J 13 33) (J 13 32).toInt) := hp5
          clear hp5
          have hW : WB g A s.heap H locs ((hv (hv J [165] [] Gl3) [146] [] u5), L, I, P, E, N) (sgM g) := hW
          have hS2 := hf5_0
          refine lv_iconst (v := 0) hx hb dX12_asks_93 (by decide) ?_
          refine lv_istore_n (lv' := [(3, .int 0), (0, .ref (g.2.2.1 13)), (1, .int a0), (2, .int a1)]) hx hb dX12_asks_94 rfl hl (by decide) rfl (fun ls hl => ?_)
          have loop95 : ∀ (n95 : Nat) (m3 : Int32) (Gl6 : Nat → Nat → Int32) (H : Heap) (locs : List Loc) (ls : Array Slot), (40 - m3.toInt).toNat < n95 → 0 ≤ m3.toInt ∧ m3.toInt ≤ (J 13 35).toInt → (∀ h : Nat, (h : Int) < m3.toInt → (¬ (Gl6 166 h).toInt = 0 ↔ (J 13 36).toInt ≤ ((u5 146) (J 108 h).toNatClampNeg / J 109 h).toInt)) → WB g A s.heap H locs ((hv (hv (hv J [165] [] Gl3) [146] [] u5) [166] [] Gl6), L, I, P, E, N) (sgM g) → lv_has ls 4 [(3, .int m3), (0, .ref (g.2.2.1 13)), (1, .int a0), (2, .int a1)] → W p l e (RM (4) 0 0) s m ([.ref (g.2.2.1 13), .int a0, .int a1] : List Value).toArray below meth c H locs 0 0 (MQ below Q9 ([.ref (g.2.2.1 13), .int a0, .int a1] : List Value).toArray s 0 0 A) (F0 m 95 ls []) := by
            intro n95
            induction n95 with
            | zero => intro m3 Gl6 H locs ls hmeas; exact absurd hmeas (Nat.not_lt_zero _)
            | succ n95 ih95 =>
              intro m3 Gl6 H locs ls hmeas hi hw hW hl
              refine lv_iload_n hx hb dX12_asks_95 rfl (lv_at hl 0 rfl) ?_
              refine lv_aload_n hx hb dX12_asks_96 rfl (lv_at hl 1 rfl) ?_
              refine rg_13_35 C hW (mm_ rfl) tw_1058 dX12_asks_97 ?_
              refine lv_as (J 13 35) rfl ?_
              refine lv_icmp_ge (tgt := 120) hx hb dX12_asks_100 (by decide) (fun c7 => ?_) (fun c7 => ?_)
              · have c7 : (J 13 35).toInt ≤ m3.toInt := tle rfl rfl c7
                have hWr : WB g A s.heap H locs (hv J [146, 165, 166] [] (hv (hv (hv J [165] [] Gl3) [146] [] u5) [166] [] Gl6), L, I, P, E, N) (sgM g) := by
                  rw [← ag_hvE (J := J) (R := [146, 165, 166]) (F := []) (ag_hv rfl rfl (ag_hv rfl rfl (ag_hv rfl rfl ag_rf)))]
                  exact hW
                subst hQ9
                exact end_v C hr hlocks (hv (hv (hv J [165] [] Gl3) [146] [] u5) [166] [] Gl6) hWr (show ∃ y y2 : Nat → Int32, (¬ (J 116 a0.toNatClampNeg).toInt = 6 → SND y (J 101) (J 102) (J 103) (J 104) (fun k => 0 ≤ a0.toInt ∧ CUTP (J 105) (J 106) (J 107) (J 13 34).toInt a0.toInt k) (J 118 a0.toNatClampNeg) (J 120 a0.toNatClampNeg) (J 13 32).toInt) ∧ SND y2 (J 101) (J 102) (J 103) (J 104) (fun k => 0 ≤ (-1 : Int32).toInt ∧ CUTP (J 105) (J 106) (J 107) (J 13 34).toInt (-1 : Int32).toInt k) a1 (J 13 33) (J 13 32).toInt ∧ (∀ h : Nat, (h : Int) < (J 13 35).toInt → (¬ (Gl3 165 h).toInt = 0 ↔ 0 < (HFM (J 116 a0.toNatClampNeg) (J 110) (J 111) a0.toInt (J 13 36) (J 109) (J 108) y) h)) ∧ ∀ h : Nat, (h : Int) < (J 13 35).toInt → (¬ (Gl6 166 h).toInt = 0 ↔ (J 13 36).toInt ≤ (y2 (J 108 h).toNatClampNeg / J 109 h).toInt) from by (have e9 : m3.toInt = (J 13 35).toInt := (by omega); rw [e9] at hw; exact ⟨(J 146), _, (fun h9 => absurd (by omega) h9), hS2, hh9, hw⟩)) dX12_asks_120
              · have c7 : m3.toInt < (J 13 35).toInt := tnle rfl rfl c7
                refine lv_aload_n hx hb dX12_asks_103 rfl (lv_at hl 1 rfl) ?_
                refine rg_13_66 C hW (mm_ rfl) tw_1089 dX12_asks_104 ?_
                refine lv_iload_n hx hb dX12_asks_107 rfl (lv_at hl 0 rfl) ?_
                refine lv_aload_n hx hb dX12_asks_108 rfl (lv_at hl 1 rfl) ?_
                refine lv_iload_n hx hb dX12_asks_109 rfl (lv_at hl 0 rfl) ?_
                refine ci_ C hW (runV (x := (g.2.2.1 13)) (As := [.int m3]) (rest := [.int m3, .ref (g.2.2.1 166)]) (T := (((hv (hv (hv J [165] [] Gl3) [146] [] u5) [166] [] Gl6), L, I, P, E, N), sgM g)) C hW (c_X12_hearsNow_e l g (hv (hv (hv J [165] [] Gl3) [146] [] u5) [166] [] Gl6) L I P E N H.size m3 hwm (show 0 ≤ m3.toInt ∧ m3.toInt < (J 13 35).toInt from by omega)) mi_X12_hearsNow tw_1302 (recv_ (T := (((hv (hv (hv J [165] [] Gl3) [146] [] u5) [166] [] Gl6), L, I, P, E, N), sgM g)) C hW (mm_ rfl) rfl rfl) ⟨rfl, rfl, Nat.le_of_ble_eq_true rfl, Nat.le_of_ble_eq_true rfl⟩ rfl hl.1 rfl (Nat.le_of_ble_eq_true rfl) dX12_asks_110 ⟨Nat.le_of_ble_eq_true rfl, Nat.le_of_ble_eq_true rfl⟩) (fun r8 u8 H locs hp8 hW => ?_)
                have hf8_0 : (((r8.toInt : Int) = 1 ∧ (J 13 36).toInt ≤ (u5 146 (J 108 m3.toNatClampNeg).toNatClampNeg / J 109 m3.toNatClampNeg).toInt) ∨ ((r8.toInt : Int) = 0 ∧ (u5 146 (J 108 m3.toNatClampNeg).toNatClampNeg / J 109 m3.toNatClampNeg).toInt < (J 13 36).toInt)) := hp8
                clear hp8
                have hW : WB g A s.heap H locs ((hv (hv (hv J [165] [] Gl3) [146] [] u5) [166] [] Gl6), L, I, P, E, N) (sgM g) := hW
                have hB2 := hf8_0
                have hin : vp_in m3 40 := tin rfl (by omega)
                refine rs_166 C hW (mm_ rfl) (y := r8) (vnb (b01 (by omega))) hin dX12_asks_113 (fun H locs hW => ?_)
                obtain ⟨x9, e9⟩ : ∃ y : Int32, y = m3 + 1 := ⟨_, rfl⟩
                refine lv_iinc (v := x9) (lv' := [(3, .int x9), (0, .ref (g.2.2.1 13)), (1, .int a0), (2, .int a1)]) hx hb dX12_asks_114 hl (k := 0) rfl (by rw [e9]; rfl) (by decide) rfl (fun ls hl => ?_)
                try have t9 : x9.toInt = m3.toInt + 1 := tadd e9 rfl kp1 (by omega)
                refine lv_goto (tgt := 95) hx hb dX12_asks_117 (by decide) ?_
                have hWl : WB g A s.heap H locs ((hv (hv (hv J [165] [] Gl3) [146] [] u5) [166] [] (up2 (hv (hv (hv J [165] [] Gl3) [146] [] u5) [166] [] Gl6) 166 m3.toNatClampNeg r8)), L, I, P, E, N) (sgM g) := by
                  rw [← ag_hvE (J := (hv (hv J [165] [] Gl3) [146] [] u5)) (R := [166]) (F := []) (ag_up (Or.inl rfl) (ag_hv rfl rfl ag_rf))]
                  exact hW
                refine ih95 x9 (up2 (hv (hv (hv J [165] [] Gl3) [146] [] u5) [166] [] Gl6) 166 m3.toNatClampNeg r8) H locs ls ?_ ?_ ?_ hWl (lv_sub hl [0, 1, 2, 3] rfl)
                · show (40 - x9.toInt).toNat < n95
                  omega
                · show 0 ≤ x9.toInt ∧ x9.toInt ≤ (J 13 35).toInt
                  first | omega | exact hi | assumption
                · show ∀ h : Nat, (h : Int) < x9.toInt → (¬ ((up2 Gl6 166 m3.toNatClampNeg r8) 166 h).toInt = 0 ↔ (J 13 36).toInt ≤ ((u5 146) (J 108 h).toNatClampNeg / J 109 h).toInt)
                  exact rowp_s hw rfl (by have h8 := tcl m3; omega) (by omega) (by omega)
          -- into the loop
          have hWl : WB g A s.heap H locs ((hv (hv (hv J [165] [] Gl3) [146] [] u5) [166] [] (hv (hv J [165] [] Gl3) [146] [] u5)), L, I, P, E, N) (sgM g) := by
            rw [← ag_hvE (J := (hv (hv J [165] [] Gl3) [146] [] u5)) (R := [166]) (F := []) ag_rf]
            exact hW
          refine loop95 ((40 - (0 : Int32).toInt).toNat + 1) 0 (hv (hv J [165] [] Gl3) [146] [] u5) H locs ls ?_ ?_ ?_ hWl (lv_sub hl [0, 1, 2, 3] rfl)
          · exact Nat.lt_succ_self _
          · show 0 ≤ (0 : Int32).toInt ∧ (0 : Int32).toInt ≤ (J 13 35).toInt
            try rw [kp0]
            first | omega | exact hi | assumption
          · show ∀ h : Nat, (h : Int) < (0 : Int32).toInt → (¬ (J 166 h).toInt = 0 ↔ (J 13 36).toInt ≤ ((u5 146) (J 108 h).toNatClampNeg / J 109 h).toInt)
            try rw [kp0]
            intro h hh; omega
        · have c4 : m3.toInt < (J 13 35).toInt := tnle rfl rfl c4
          refine lv_aload_n hx hb dX12_asks_38 rfl (lv_at hl 1 rfl) ?_
          refine rg_13_65 C hW (mm_ rfl) tw_1088 dX12_asks_39 ?_
          refine lv_iload_n hx hb dX12_asks_42 rfl (lv_at hl 0 rfl) ?_
          refine lv_aload_n hx hb dX12_asks_43 rfl (lv_at hl 1 rfl) ?_
          refine rg_13_16 C hW (mm_ rfl) tw_1039 dX12_asks_44 ?_
          refine lv_iload_n hx hb dX12_asks_47 rfl (lv_at hl 2 rfl) ?_
          have hin : vp_in a0 10000 := tin rfl (by omega)
          refine ra_116 C hW (mm_ rfl) hin dX12_asks_48 ?_
          refine lv_topi (fun x10 (e10 : x10 = J 116 a0.toNatClampNeg) => ?_)
          have t10 : x10.toInt = (J 116 a0.toNatClampNeg).toInt := by rw [e10]
          refine lv_bipush (v := 6) hx hb dX12_asks_49 (by decide) ?_
          refine lv_icmp_eq (tgt := 75) hx hb dX12_asks_51 (by decide) (fun c11 => ?_) (fun c11 => ?_)
          · have c11 : x10.toInt = 6 := teq rfl kp6 c11
            refine lv_iconst (v := 0) hx hb dX12_asks_75 (by decide) ?_
            have hin : vp_in m3 40 := tin rfl (by omega)
            refine rs_165 C hW (mm_ rfl) (y := 0) (by decide) hin dX12_asks_76 (fun H locs hW => ?_)
            obtain ⟨x12, e12⟩ : ∃ y : Int32, y = m3 + 1 := ⟨_, rfl⟩
            refine lv_iinc (v := x12) (lv' := [(3, .int x12), (0, .ref (g.2.2.1 13)), (1, .int a0), (2, .int a1)]) hx hb dX12_asks_77 hl (k := 0) rfl (by rw [e12]; rfl) (by decide) rfl (fun ls hl => ?_)
            try have t12 : x12.toInt = m3.toInt + 1 := tadd e12 rfl kp1 (by omega)
            refine lv_goto (tgt := 30) hx hb dX12_asks_80 (by decide) ?_
            have hWl : WB g A s.heap H locs ((hv J [165] [] (up2 (hv J [165] [] Gl3) 165 m3.toNatClampNeg 0)), L, I, P, E, N) (sgM g) := by
              rw [← ag_hvE (J := J) (R := [165]) (F := []) (ag_up (Or.inl rfl) (ag_hv rfl rfl ag_rf))]
              exact hW
            refine ih x12 (up2 (hv J [165] [] Gl3) 165 m3.toNatClampNeg 0) H locs ls ?_ ?_ ?_ hWl (lv_sub hl [0, 1, 2, 3] rfl)
            · show (40 - x12.toInt).toNat < n
              omega
            · show 0 ≤ x12.toInt ∧ x12.toInt ≤ (J 13 35).toInt
              first | omega | exact hi | assumption
            · show ∀ h : Nat, (h : Int) < x12.toInt → (¬ ((up2 Gl3 165 m3.toNatClampNeg 0) 165 h).toInt = 0 ↔ 0 < (HFM (J 116 a0.toNatClampNeg) (J 110) (J 111) a0.toInt (J 13 36) (J 109) (J 108) (J 146)) h)
              first | exact rowp_s hh rfl (by have h8 := tcl m3; omega) (by omega) (hm_no kp0 (hwv_0 (Or.inl (by omega)) rfl)) | exact rowp_s hh rfl (by have h8 := tcl m3; omega) (by omega) (hm_no kp0 (hwv_0 (Or.inr (hB.elim (fun q => absurd q.1 (by omega)) (fun q => q.2))) rfl)) | exact rowp_s hh rfl (by have h8 := tcl m3; omega) (by omega) (hm_no2 kp0 (hwv_ls (by omega) (hB.elim (fun q => q.2) (fun q => absurd q.1 (by omega))) hL) (by omega))
          · have c11 : ¬ x10.toInt = 6 := tne rfl kp6 c11
            refine lv_aload_n hx hb dX12_asks_54 rfl (lv_at hl 1 rfl) ?_
            refine lv_iload_n hx hb dX12_asks_55 rfl (lv_at hl 0 rfl) ?_
            refine ci_ C hW (runV (x := (g.2.2.1 13)) (As := [.int m3]) (rest := [.int m3, .ref (g.2.2.1 165)]) (T := (((hv J [165] [] Gl3), L, I, P, E, N), sgM g)) C hW (c_X12_hearsNow_e l g (hv J [165] [] Gl3) L I P E N H.size m3 hwm (show 0 ≤ m3.toInt ∧ m3.toInt < (J 13 35).toInt from by omega)) mi_X12_hearsNow tw_1302 (recv_ (T := (((hv J [165] [] Gl3), L, I, P, E, N), sgM g)) C hW (mm_ rfl) rfl rfl) ⟨rfl, rfl, Nat.le_of_ble_eq_true rfl, Nat.le_of_ble_eq_true rfl⟩ rfl hl.1 rfl (Nat.le_of_ble_eq_true rfl) dX12_asks_56 ⟨Nat.le_of_ble_eq_true rfl, Nat.le_of_ble_eq_true rfl⟩) (fun r13 u13 H locs hp13 hW => ?_)
            have hf13_0 : (((r13.toInt : Int) = 1 ∧ (J 13 36).toInt ≤ (J 146 (J 108 m3.toNatClampNeg).toNatClampNeg / J 109 m3.toNatClampNeg).toInt) ∨ ((r13.toInt : Int) = 0 ∧ (J 146 (J 108 m3.toNatClampNeg).toNatClampNeg / J 109 m3.toNatClampNeg).toInt < (J 13 36).toInt)) := hp13
            clear hp13
            have hW : WB g A s.heap H locs ((hv J [165] [] Gl3), L, I, P, E, N) (sgM g) := hW
            have hB := hf13_0
            refine lv_if_eq (tgt := 75) hx hb dX12_asks_59 (by decide) (fun c14 => ?_) (fun c14 => ?_)
            · have c14 : r13.toInt = 0 := teq rfl kp0 c14
              refine lv_iconst (v := 0) hx hb dX12_asks_75 (by decide) ?_
              have hin : vp_in m3 40 := tin rfl (by omega)
              refine rs_165 C hW (mm_ rfl) (y := 0) (by decide) hin dX12_asks_76 (fun H locs hW => ?_)
              obtain ⟨x15, e15⟩ : ∃ y : Int32, y = m3 + 1 := ⟨_, rfl⟩
              refine lv_iinc (v := x15) (lv' := [(3, .int x15), (0, .ref (g.2.2.1 13)), (1, .int a0), (2, .int a1)]) hx hb dX12_asks_77 hl (k := 0) rfl (by rw [e15]; rfl) (by decide) rfl (fun ls hl => ?_)
              try have t15 : x15.toInt = m3.toInt + 1 := tadd e15 rfl kp1 (by omega)
              refine lv_goto (tgt := 30) hx hb dX12_asks_80 (by decide) ?_
              have hWl : WB g A s.heap H locs ((hv J [165] [] (up2 (hv J [165] [] Gl3) 165 m3.toNatClampNeg 0)), L, I, P, E, N) (sgM g) := by
                rw [← ag_hvE (J := J) (R := [165]) (F := []) (ag_up (Or.inl rfl) (ag_hv rfl rfl ag_rf))]
                exact hW
              refine ih x15 (up2 (hv J [165] [] Gl3) 165 m3.toNatClampNeg 0) H locs ls ?_ ?_ ?_ hWl (lv_sub hl [0, 1, 2, 3] rfl)
              · show (40 - x15.toInt).toNat < n
                omega
              · show 0 ≤ x15.toInt ∧ x15.toInt ≤ (J 13 35).toInt
                first | omega | exact hi | assumption
              · show ∀ h : Nat, (h : Int) < x15.toInt → (¬ ((up2 Gl3 165 m3.toNatClampNeg 0) 165 h).toInt = 0 ↔ 0 < (HFM (J 116 a0.toNatClampNeg) (J 110) (J 111) a0.toInt (J 13 36) (J 109) (J 108) (J 146)) h)
                first | exact rowp_s hh rfl (by have h8 := tcl m3; omega) (by omega) (hm_no kp0 (hwv_0 (Or.inl (by omega)) rfl)) | exact rowp_s hh rfl (by have h8 := tcl m3; omega) (by omega) (hm_no kp0 (hwv_0 (Or.inr (hB.elim (fun q => absurd q.1 (by omega)) (fun q => q.2))) rfl)) | exact rowp_s hh rfl (by have h8 := tcl m3; omega) (by omega) (hm_no2 kp0 (hwv_ls (by omega) (hB.elim (fun q => q.2) (fun q => absurd q.1 (by omega))) hL) (by omega))
            · have c14 : ¬ r13.toInt = 0 := tne rfl kp0 c14
              refine lv_aload_n hx hb dX12_asks_62 rfl (lv_at hl 1 rfl) ?_
              refine lv_iload_n hx hb dX12_asks_63 rfl (lv_at hl 0 rfl) ?_
              refine lv_iload_n hx hb dX12_asks_64 rfl (lv_at hl 2 rfl) ?_
              refine ci_ C hW (runV (x := (g.2.2.1 13)) (As := [.int m3, .int a0]) (rest := [.int m3, .ref (g.2.2.1 165)]) (T := (((hv J [165] [] Gl3), L, I, P, E, N), sgM g)) C hW (c_X12_listens_e l g (hv J [165] [] Gl3) L I P E N H.size m3 a0 hwm (show 0 ≤ m3.toInt ∧ m3.toInt < 40 from by omega) (show 0 ≤ a0.toInt ∧ a0.toInt < 10000 from by omega)) mi_X12_listens tw_1398 (recv_ (T := (((hv J [165] [] Gl3), L, I, P, E, N), sgM g)) C hW (mm_ rfl) rfl rfl) ⟨rfl, rfl, Nat.le_of_ble_eq_true rfl, Nat.le_of_ble_eq_true rfl⟩ rfl hl.1 rfl (Nat.le_of_ble_eq_true rfl) dX12_asks_65 ⟨Nat.le_of_ble_eq_true rfl, Nat.le_of_ble_eq_true rfl⟩) (fun r16 u16 H locs hp16 hW => ?_)
              have hf16_0 : (((r16.toInt : Int) = 2 ∧ ((J 116 a0.toNatClampNeg).toInt = 2 ∨ BT (J 110 m3.toNatClampNeg) a0.toInt = true)) ∨ (¬ (J 116 a0.toNatClampNeg).toInt = 2 ∧ ¬ BT (J 110 m3.toNatClampNeg) a0.toInt = true ∧ (((r16.toInt : Int) = 1 ∧ BT (J 111 m3.toNatClampNeg) a0.toInt = true) ∨ ((r16.toInt : Int) = 0 ∧ ¬ BT (J 111 m3.toNatClampNeg) a0.toInt = true)))) := hp16
              clear hp16
              have hW : WB g A s.heap H locs ((hv J [165] [] Gl3), L, I, P, E, N) (sgM g) := hW
              have hL := hf16_0
              refine lv_if_le (tgt := 75) hx hb dX12_asks_68 (by decide) (fun c17 => ?_) (fun c17 => ?_)
              · have c17 : r16.toInt ≤ 0 := tle rfl kp0 c17
                refine lv_iconst (v := 0) hx hb dX12_asks_75 (by decide) ?_
                have hin : vp_in m3 40 := tin rfl (by omega)
                refine rs_165 C hW (mm_ rfl) (y := 0) (by decide) hin dX12_asks_76 (fun H locs hW => ?_)
                obtain ⟨x18, e18⟩ : ∃ y : Int32, y = m3 + 1 := ⟨_, rfl⟩
                refine lv_iinc (v := x18) (lv' := [(3, .int x18), (0, .ref (g.2.2.1 13)), (1, .int a0), (2, .int a1)]) hx hb dX12_asks_77 hl (k := 0) rfl (by rw [e18]; rfl) (by decide) rfl (fun ls hl => ?_)
                try have t18 : x18.toInt = m3.toInt + 1 := tadd e18 rfl kp1 (by omega)
                refine lv_goto (tgt := 30) hx hb dX12_asks_80 (by decide) ?_
                have hWl : WB g A s.heap H locs ((hv J [165] [] (up2 (hv J [165] [] Gl3) 165 m3.toNatClampNeg 0)), L, I, P, E, N) (sgM g) := by
                  rw [← ag_hvE (J := J) (R := [165]) (F := []) (ag_up (Or.inl rfl) (ag_hv rfl rfl ag_rf))]
                  exact hW
                refine ih x18 (up2 (hv J [165] [] Gl3) 165 m3.toNatClampNeg 0) H locs ls ?_ ?_ ?_ hWl (lv_sub hl [0, 1, 2, 3] rfl)
                · show (40 - x18.toInt).toNat < n
                  omega
                · show 0 ≤ x18.toInt ∧ x18.toInt ≤ (J 13 35).toInt
                  first | omega | exact hi | assumption
                · show ∀ h : Nat, (h : Int) < x18.toInt → (¬ ((up2 Gl3 165 m3.toNatClampNeg 0) 165 h).toInt = 0 ↔ 0 < (HFM (J 116 a0.toNatClampNeg) (J 110) (J 111) a0.toInt (J 13 36) (J 109) (J 108) (J 146)) h)
                  first | exact rowp_s hh rfl (by have h8 := tcl m3; omega) (by omega) (hm_no kp0 (hwv_0 (Or.inl (by omega)) rfl)) | exact rowp_s hh rfl (by have h8 := tcl m3; omega) (by omega) (hm_no kp0 (hwv_0 (Or.inr (hB.elim (fun q => absurd q.1 (by omega)) (fun q => q.2))) rfl)) | exact rowp_s hh rfl (by have h8 := tcl m3; omega) (by omega) (hm_no2 kp0 (hwv_ls (by omega) (hB.elim (fun q => q.2) (fun q => absurd q.1 (by omega))) hL) (by omega))
              · have c17 : 0 < r16.toInt := tnle rfl kp0 c17
                refine lv_iconst (v := 1) hx hb dX12_asks_71 (by decide) ?_
                refine lv_goto (tgt := 76) hx hb dX12_asks_72 (by decide) ?_
                have hin : vp_in m3 40 := tin rfl (by omega)
                refine rs_165 C hW (mm_ rfl) (y := 1) (by decide) hin dX12_asks_76 (fun H locs hW => ?_)
                obtain ⟨x19, e19⟩ : ∃ y : Int32, y = m3 + 1 := ⟨_, rfl⟩
                refine lv_iinc (v := x19) (lv' := [(3, .int x19), (0, .ref (g.2.2.1 13)), (1, .int a0), (2, .int a1)]) hx hb dX12_asks_77 hl (k := 0) rfl (by rw [e19]; rfl) (by decide) rfl (fun ls hl => ?_)
                try have t19 : x19.toInt = m3.toInt + 1 := tadd e19 rfl kp1 (by omega)
                refine lv_goto (tgt := 30) hx hb dX12_asks_80 (by decide) ?_
                have hWl : WB g A s.heap H locs ((hv J [165] [] (up2 (hv J [165] [] Gl3) 165 m3.toNatClampNeg 1)), L, I, P, E, N) (sgM g) := by
                  rw [← ag_hvE (J := J) (R := [165]) (F := []) (ag_up (Or.inl rfl) (ag_hv rfl rfl ag_rf))]
                  exact hW
                refine ih x19 (up2 (hv J [165] [] Gl3) 165 m3.toNatClampNeg 1) H locs ls ?_ ?_ ?_ hWl (lv_sub hl [0, 1, 2, 3] rfl)
                · show (40 - x19.toInt).toNat < n
                  omega
                · show 0 ≤ x19.toInt ∧ x19.toInt ≤ (J 13 35).toInt
                  first | omega | exact hi | assumption
                · show ∀ h : Nat, (h : Int) < x19.toInt → (¬ ((up2 Gl3 165 m3.toNatClampNeg 1) 165 h).toInt = 0 ↔ 0 < (HFM (J 116 a0.toNatClampNeg) (J 110) (J 111) a0.toInt (J 13 36) (J 109) (J 108) (J 146)) h)
                  first | exact rowp_s hh rfl (by have h8 := tcl m3; omega) (by omega) (hm_yes kp1 (hwv_ls (by omega) (hB.elim (fun q => q.2) (fun q => absurd q.1 (by omega))) hL) (by omega))
    -- into the loop
    have hWl : WB g A s.heap H locs ((hv J [165] [] J), L, I, P, E, N) (sgM g) := by
      rw [← ag_hvE (J := J) (R := [165]) (F := []) ag_rf]
      exact hW
    refine loop30 ((40 - (0 : Int32).toInt).toNat + 1) 0 J H locs ls ?_ ?_ ?_ hWl (lv_sub hl [0, 1, 2, 3] rfl)
    · exact Nat.lt_succ_self _
    · show 0 ≤ (0 : Int32).toInt ∧ (0 : Int32).toInt ≤ (J 13 35).toInt
      try rw [kp0]
      first | omega | exact hi | assumption
    · show ∀ h : Nat, (h : Int) < (0 : Int32).toInt → (¬ (J 165 h).toInt = 0 ↔ 0 < (HFM (J 116 a0.toNatClampNeg) (J 110) (J 111) a0.toInt (J 13 36) (J 109) (J 108) (J 146)) h)
      try rw [kp0]
      intro h hh; omega
  · have c2 : ¬ x1.toInt = 6 := tne rfl kp6 c2
    refine lv_aload_n hx hb dX12_asks_11 rfl (lv_at hl 0 rfl) ?_
    refine lv_aload_n hx hb dX12_asks_12 rfl (lv_at hl 0 rfl) ?_
    refine rg_13_18 C hW (mm_ rfl) tw_1041 dX12_asks_13 ?_
    refine lv_iload_n hx hb dX12_asks_16 rfl (lv_at hl 1 rfl) ?_
    have hin : vp_in a0 10000 := tin rfl (by omega)
    refine ra_118 C hW (mm_ rfl) hin dX12_asks_17 ?_
    refine lv_topi (fun x20 (e20 : x20 = J 118 a0.toNatClampNeg) => ?_)
    refine lv_aload_n hx hb dX12_asks_18 rfl (lv_at hl 0 rfl) ?_
    refine rg_13_20 C hW (mm_ rfl) tw_1043 dX12_asks_19 ?_
    refine lv_iload_n hx hb dX12_asks_22 rfl (lv_at hl 1 rfl) ?_
    have hin : vp_in a0 10000 := tin rfl (by omega)
    refine ra_120 C hW (mm_ rfl) hin dX12_asks_23 ?_
    refine lv_topi (fun x21 (e21 : x21 = J 120 a0.toNatClampNeg) => ?_)
    refine lv_iload_n hx hb dX12_asks_24 rfl (lv_at hl 1 rfl) ?_
    refine cv_ C hW (runV (x := (g.2.2.1 13)) (As := [.int x20, .int x21, .int a0]) (rest := []) (T := ((J, L, I, P, E, N), sgM g)) C hW (c_X12_sounds_e l g J L I P E N H.size x20 x21 a0 hwm) mi_X12_sounds tw_1277 (recv_ (T := ((J, L, I, P, E, N), sgM g)) C hW (mm_ rfl) rfl rfl) ⟨rfl, rfl, Nat.le_of_ble_eq_true rfl, Nat.le_of_ble_eq_true rfl⟩ rfl hl.1 rfl (Nat.le_of_ble_eq_true rfl) dX12_asks_25 ⟨Nat.le_of_ble_eq_true rfl, Nat.le_of_ble_eq_true rfl⟩) (fun u22 H locs hp22 hW => ?_)
    have hf22_0 : (SND (u22 146) (J 101) (J 102) (J 103) (J 104) (fun k => 0 ≤ a0.toInt ∧ CUTP (J 105) (J 106) (J 107) (J 13 34).toInt a0.toInt k) x20 x21 (J 13 32).toInt) := hp22
    clear hp22
    have hW : WB g A s.heap H locs ((hv J [146] [] u22), L, I, P, E, N) (sgM g) := hW
    have hS := hf22_0
    refine lv_iconst (v := 0) hx hb dX12_asks_28 (by decide) ?_
    refine lv_istore_n (lv' := [(3, .int 0), (0, .ref (g.2.2.1 13)), (1, .int a0), (2, .int a1)]) hx hb dX12_asks_29 rfl hl (by decide) rfl (fun ls hl => ?_)
    have loop30 : ∀ (n : Nat) (m3 : Int32) (Gl23 : Nat → Nat → Int32) (H : Heap) (locs : List Loc) (ls : Array Slot), (40 - m3.toInt).toNat < n → 0 ≤ m3.toInt ∧ m3.toInt ≤ (J 13 35).toInt → (∀ h : Nat, (h : Int) < m3.toInt → (¬ (Gl23 165 h).toInt = 0 ↔ 0 < (HFM (J 116 a0.toNatClampNeg) (J 110) (J 111) a0.toInt (J 13 36) (J 109) (J 108) (u22 146)) h)) → WB g A s.heap H locs ((hv (hv J [146] [] u22) [165] [] Gl23), L, I, P, E, N) (sgM g) → lv_has ls 4 [(3, .int m3), (0, .ref (g.2.2.1 13)), (1, .int a0), (2, .int a1)] → W p l e (RM (4) 0 0) s m ([.ref (g.2.2.1 13), .int a0, .int a1] : List Value).toArray below meth c H locs 0 0 (MQ below Q9 ([.ref (g.2.2.1 13), .int a0, .int a1] : List Value).toArray s 0 0 A) (F0 m 30 ls []) := by
      intro n
      induction n with
      | zero => intro m3 Gl23 H locs ls hmeas; exact absurd hmeas (Nat.not_lt_zero _)
      | succ n ih =>
        intro m3 Gl23 H locs ls hmeas hi hh hW hl
        refine lv_iload_n hx hb dX12_asks_30 rfl (lv_at hl 0 rfl) ?_
        refine lv_aload_n hx hb dX12_asks_31 rfl (lv_at hl 1 rfl) ?_
        refine rg_13_35 C hW (mm_ rfl) tw_1058 dX12_asks_32 ?_
        refine lv_as (J 13 35) rfl ?_
        refine lv_icmp_ge (tgt := 83) hx hb dX12_asks_35 (by decide) (fun c24 => ?_) (fun c24 => ?_)
        · have c24 : (J 13 35).toInt ≤ m3.toInt := tle rfl rfl c24
          have hh9 : ∀ h : Nat, (h : Int) < (J 13 35).toInt → (¬ (Gl23 165 h).toInt = 0 ↔ 0 < (HFM (J 116 a0.toNatClampNeg) (J 110) (J 111) a0.toInt (J 13 36) (J 109) (J 108) (u22 146)) h) := fun h9 q9 => hh h9 (by omega)
          refine lv_aload_n hx hb dX12_asks_83 rfl (lv_at hl 1 rfl) ?_
          refine lv_iload_n hx hb dX12_asks_84 rfl (lv_at hl 3 rfl) ?_
          refine lv_aload_n hx hb dX12_asks_85 rfl (lv_at hl 1 rfl) ?_
          refine rg_13_33 C hW (mm_ rfl) tw_1056 dX12_asks_86 ?_
          refine lv_as (J 13 33) rfl ?_
          refine lv_iconst (v := (-1)) hx hb dX12_asks_89 (by decide) ?_
          refine cv_ C hW (runV (x := (g.2.2.1 13)) (As := [.int a1, .int (J 13 33), .int (-1)]) (rest := []) (T := (((hv (hv J [146] [] u22) [165] [] Gl23), L, I, P, E, N), sgM g)) C hW (c_X12_sounds_e l g (hv (hv J [146] [] u22) [165] [] Gl23) L I P E N H.size a1 (J 13 33) (-1) hwm) mi_X12_sounds tw_1277 (recv_ (T := (((hv (hv J [146] [] u22) [165] [] Gl23), L, I, P, E, N), sgM g)) C hW (mm_ rfl) rfl rfl) ⟨rfl, rfl, Nat.le_of_ble_eq_true rfl, Nat.le_of_ble_eq_true rfl⟩ rfl hl.1 rfl (Nat.le_of_ble_eq_true rfl) dX12_asks_90 ⟨Nat.le_of_ble_eq_true rfl, Nat.le_of_ble_eq_true rfl⟩) (fun u25 H locs hp25 hW => ?_)
          have hf25_0 : (SND (u25 146) (J 101) (J 102) (J 103) (J 104) (fun k => 0 ≤ (-1 : Int32).toInt ∧ CUTP (J 105) (J 106) (J 107) (J 13 34).toInt (-1 : Int32).toInt k) a1 (J 13 33) (J 13 32).toInt) := hp25
          clear hp25
          have hW : WB g A s.heap H locs ((hv (hv (hv J [146] [] u22) [165] [] Gl23) [146] [] u25), L, I, P, E, N) (sgM g) := hW
          have hS2 := hf25_0
          refine lv_iconst (v := 0) hx hb dX12_asks_93 (by decide) ?_
          refine lv_istore_n (lv' := [(3, .int 0), (0, .ref (g.2.2.1 13)), (1, .int a0), (2, .int a1)]) hx hb dX12_asks_94 rfl hl (by decide) rfl (fun ls hl => ?_)
          have loop95 : ∀ (n95 : Nat) (m3 : Int32) (Gl26 : Nat → Nat → Int32) (H : Heap) (locs : List Loc) (ls : Array Slot), (40 - m3.toInt).toNat < n95 → 0 ≤ m3.toInt ∧ m3.toInt ≤ (J 13 35).toInt → (∀ h : Nat, (h : Int) < m3.toInt → (¬ (Gl26 166 h).toInt = 0 ↔ (J 13 36).toInt ≤ ((u25 146) (J 108 h).toNatClampNeg / J 109 h).toInt)) → WB g A s.heap H locs ((hv (hv (hv (hv J [146] [] u22) [165] [] Gl23) [146] [] u25) [166] [] Gl26), L, I, P, E, N) (sgM g) → lv_has ls 4 [(3, .int m3), (0, .ref (g.2.2.1 13)), (1, .int a0), (2, .int a1)] → W p l e (RM (4) 0 0) s m ([.ref (g.2.2.1 13), .int a0, .int a1] : List Value).toArray below meth c H locs 0 0 (MQ below Q9 ([.ref (g.2.2.1 13), .int a0, .int a1] : List Value).toArray s 0 0 A) (F0 m 95 ls []) := by
            intro n95
            induction n95 with
            | zero => intro m3 Gl26 H locs ls hmeas; exact absurd hmeas (Nat.not_lt_zero _)
            | succ n95 ih95 =>
              intro m3 Gl26 H locs ls hmeas hi hw hW hl
              refine lv_iload_n hx hb dX12_asks_95 rfl (lv_at hl 0 rfl) ?_
              refine lv_aload_n hx hb dX12_asks_96 rfl (lv_at hl 1 rfl) ?_
              refine rg_13_35 C hW (mm_ rfl) tw_1058 dX12_asks_97 ?_
              refine lv_as (J 13 35) rfl ?_
              refine lv_icmp_ge (tgt := 120) hx hb dX12_asks_100 (by decide) (fun c27 => ?_) (fun c27 => ?_)
              · have c27 : (J 13 35).toInt ≤ m3.toInt := tle rfl rfl c27
                have hWr : WB g A s.heap H locs (hv J [146, 165, 166] [] (hv (hv (hv (hv J [146] [] u22) [165] [] Gl23) [146] [] u25) [166] [] Gl26), L, I, P, E, N) (sgM g) := by
                  rw [← ag_hvE (J := J) (R := [146, 165, 166]) (F := []) (ag_hv rfl rfl (ag_hv rfl rfl (ag_hv rfl rfl (ag_hv rfl rfl ag_rf))))]
                  exact hW
                subst hQ9
                exact end_v C hr hlocks (hv (hv (hv (hv J [146] [] u22) [165] [] Gl23) [146] [] u25) [166] [] Gl26) hWr (show ∃ y y2 : Nat → Int32, (¬ (J 116 a0.toNatClampNeg).toInt = 6 → SND y (J 101) (J 102) (J 103) (J 104) (fun k => 0 ≤ a0.toInt ∧ CUTP (J 105) (J 106) (J 107) (J 13 34).toInt a0.toInt k) (J 118 a0.toNatClampNeg) (J 120 a0.toNatClampNeg) (J 13 32).toInt) ∧ SND y2 (J 101) (J 102) (J 103) (J 104) (fun k => 0 ≤ (-1 : Int32).toInt ∧ CUTP (J 105) (J 106) (J 107) (J 13 34).toInt (-1 : Int32).toInt k) a1 (J 13 33) (J 13 32).toInt ∧ (∀ h : Nat, (h : Int) < (J 13 35).toInt → (¬ (Gl23 165 h).toInt = 0 ↔ 0 < (HFM (J 116 a0.toNatClampNeg) (J 110) (J 111) a0.toInt (J 13 36) (J 109) (J 108) y) h)) ∧ ∀ h : Nat, (h : Int) < (J 13 35).toInt → (¬ (Gl26 166 h).toInt = 0 ↔ (J 13 36).toInt ≤ (y2 (J 108 h).toNatClampNeg / J 109 h).toInt) from by (rw [e20, e21] at hS; have e9 : m3.toInt = (J 13 35).toInt := (by omega); rw [e9] at hw; exact ⟨(u22 146), _, (fun _ => hS), hS2, hh9, hw⟩)) dX12_asks_120
              · have c27 : m3.toInt < (J 13 35).toInt := tnle rfl rfl c27
                refine lv_aload_n hx hb dX12_asks_103 rfl (lv_at hl 1 rfl) ?_
                refine rg_13_66 C hW (mm_ rfl) tw_1089 dX12_asks_104 ?_
                refine lv_iload_n hx hb dX12_asks_107 rfl (lv_at hl 0 rfl) ?_
                refine lv_aload_n hx hb dX12_asks_108 rfl (lv_at hl 1 rfl) ?_
                refine lv_iload_n hx hb dX12_asks_109 rfl (lv_at hl 0 rfl) ?_
                refine ci_ C hW (runV (x := (g.2.2.1 13)) (As := [.int m3]) (rest := [.int m3, .ref (g.2.2.1 166)]) (T := (((hv (hv (hv (hv J [146] [] u22) [165] [] Gl23) [146] [] u25) [166] [] Gl26), L, I, P, E, N), sgM g)) C hW (c_X12_hearsNow_e l g (hv (hv (hv (hv J [146] [] u22) [165] [] Gl23) [146] [] u25) [166] [] Gl26) L I P E N H.size m3 hwm (show 0 ≤ m3.toInt ∧ m3.toInt < (J 13 35).toInt from by omega)) mi_X12_hearsNow tw_1302 (recv_ (T := (((hv (hv (hv (hv J [146] [] u22) [165] [] Gl23) [146] [] u25) [166] [] Gl26), L, I, P, E, N), sgM g)) C hW (mm_ rfl) rfl rfl) ⟨rfl, rfl, Nat.le_of_ble_eq_true rfl, Nat.le_of_ble_eq_true rfl⟩ rfl hl.1 rfl (Nat.le_of_ble_eq_true rfl) dX12_asks_110 ⟨Nat.le_of_ble_eq_true rfl, Nat.le_of_ble_eq_true rfl⟩) (fun r28 u28 H locs hp28 hW => ?_)
                have hf28_0 : (((r28.toInt : Int) = 1 ∧ (J 13 36).toInt ≤ (u25 146 (J 108 m3.toNatClampNeg).toNatClampNeg / J 109 m3.toNatClampNeg).toInt) ∨ ((r28.toInt : Int) = 0 ∧ (u25 146 (J 108 m3.toNatClampNeg).toNatClampNeg / J 109 m3.toNatClampNeg).toInt < (J 13 36).toInt)) := hp28
                clear hp28
                have hW : WB g A s.heap H locs ((hv (hv (hv (hv J [146] [] u22) [165] [] Gl23) [146] [] u25) [166] [] Gl26), L, I, P, E, N) (sgM g) := hW
                have hB2 := hf28_0
                have hin : vp_in m3 40 := tin rfl (by omega)
                refine rs_166 C hW (mm_ rfl) (y := r28) (vnb (b01 (by omega))) hin dX12_asks_113 (fun H locs hW => ?_)
                obtain ⟨x29, e29⟩ : ∃ y : Int32, y = m3 + 1 := ⟨_, rfl⟩
                refine lv_iinc (v := x29) (lv' := [(3, .int x29), (0, .ref (g.2.2.1 13)), (1, .int a0), (2, .int a1)]) hx hb dX12_asks_114 hl (k := 0) rfl (by rw [e29]; rfl) (by decide) rfl (fun ls hl => ?_)
                try have t29 : x29.toInt = m3.toInt + 1 := tadd e29 rfl kp1 (by omega)
                refine lv_goto (tgt := 95) hx hb dX12_asks_117 (by decide) ?_
                have hWl : WB g A s.heap H locs ((hv (hv (hv (hv J [146] [] u22) [165] [] Gl23) [146] [] u25) [166] [] (up2 (hv (hv (hv (hv J [146] [] u22) [165] [] Gl23) [146] [] u25) [166] [] Gl26) 166 m3.toNatClampNeg r28)), L, I, P, E, N) (sgM g) := by
                  rw [← ag_hvE (J := (hv (hv (hv J [146] [] u22) [165] [] Gl23) [146] [] u25)) (R := [166]) (F := []) (ag_up (Or.inl rfl) (ag_hv rfl rfl ag_rf))]
                  exact hW
                refine ih95 x29 (up2 (hv (hv (hv (hv J [146] [] u22) [165] [] Gl23) [146] [] u25) [166] [] Gl26) 166 m3.toNatClampNeg r28) H locs ls ?_ ?_ ?_ hWl (lv_sub hl [0, 1, 2, 3] rfl)
                · show (40 - x29.toInt).toNat < n95
                  omega
                · show 0 ≤ x29.toInt ∧ x29.toInt ≤ (J 13 35).toInt
                  first | omega | exact hi | assumption
                · show ∀ h : Nat, (h : Int) < x29.toInt → (¬ ((up2 Gl26 166 m3.toNatClampNeg r28) 166 h).toInt = 0 ↔ (J 13 36).toInt ≤ ((u25 146) (J 108 h).toNatClampNeg / J 109 h).toInt)
                  exact rowp_s hw rfl (by have h8 := tcl m3; omega) (by omega) (by omega)
          -- into the loop
          have hWl : WB g A s.heap H locs ((hv (hv (hv (hv J [146] [] u22) [165] [] Gl23) [146] [] u25) [166] [] (hv (hv (hv J [146] [] u22) [165] [] Gl23) [146] [] u25)), L, I, P, E, N) (sgM g) := by
            rw [← ag_hvE (J := (hv (hv (hv J [146] [] u22) [165] [] Gl23) [146] [] u25)) (R := [166]) (F := []) ag_rf]
            exact hW
          refine loop95 ((40 - (0 : Int32).toInt).toNat + 1) 0 (hv (hv (hv J [146] [] u22) [165] [] Gl23) [146] [] u25) H locs ls ?_ ?_ ?_ hWl (lv_sub hl [0, 1, 2, 3] rfl)
          · exact Nat.lt_succ_self _
          · show 0 ≤ (0 : Int32).toInt ∧ (0 : Int32).toInt ≤ (J 13 35).toInt
            try rw [kp0]
            first | omega | exact hi | assumption
          · show ∀ h : Nat, (h : Int) < (0 : Int32).toInt → (¬ (J 166 h).toInt = 0 ↔ (J 13 36).toInt ≤ ((u25 146) (J 108 h).toNatClampNeg / J 109 h).toInt)
            try rw [kp0]
            intro h hh; omega
        · have c24 : m3.toInt < (J 13 35).toInt := tnle rfl rfl c24
          refine lv_aload_n hx hb dX12_asks_38 rfl (lv_at hl 1 rfl) ?_
          refine rg_13_65 C hW (mm_ rfl) tw_1088 dX12_asks_39 ?_
          refine lv_iload_n hx hb dX12_asks_42 rfl (lv_at hl 0 rfl) ?_
          refine lv_aload_n hx hb dX12_asks_43 rfl (lv_at hl 1 rfl) ?_
          refine rg_13_16 C hW (mm_ rfl) tw_1039 dX12_asks_44 ?_
          refine lv_iload_n hx hb dX12_asks_47 rfl (lv_at hl 2 rfl) ?_
          have hin : vp_in a0 10000 := tin rfl (by omega)
          refine ra_116 C hW (mm_ rfl) hin dX12_asks_48 ?_
          refine lv_topi (fun x30 (e30 : x30 = J 116 a0.toNatClampNeg) => ?_)
          have t30 : x30.toInt = (J 116 a0.toNatClampNeg).toInt := by rw [e30]
          refine lv_bipush (v := 6) hx hb dX12_asks_49 (by decide) ?_
          refine lv_icmp_eq (tgt := 75) hx hb dX12_asks_51 (by decide) (fun c31 => ?_) (fun c31 => ?_)
          · have c31 : x30.toInt = 6 := teq rfl kp6 c31
            refine lv_iconst (v := 0) hx hb dX12_asks_75 (by decide) ?_
            have hin : vp_in m3 40 := tin rfl (by omega)
            refine rs_165 C hW (mm_ rfl) (y := 0) (by decide) hin dX12_asks_76 (fun H locs hW => ?_)
            obtain ⟨x32, e32⟩ : ∃ y : Int32, y = m3 + 1 := ⟨_, rfl⟩
            refine lv_iinc (v := x32) (lv' := [(3, .int x32), (0, .ref (g.2.2.1 13)), (1, .int a0), (2, .int a1)]) hx hb dX12_asks_77 hl (k := 0) rfl (by rw [e32]; rfl) (by decide) rfl (fun ls hl => ?_)
            try have t32 : x32.toInt = m3.toInt + 1 := tadd e32 rfl kp1 (by omega)
            refine lv_goto (tgt := 30) hx hb dX12_asks_80 (by decide) ?_
            have hWl : WB g A s.heap H locs ((hv (hv J [146] [] u22) [165] [] (up2 (hv (hv J [146] [] u22) [165] [] Gl23) 165 m3.toNatClampNeg 0)), L, I, P, E, N) (sgM g) := by
              rw [← ag_hvE (J := (hv J [146] [] u22)) (R := [165]) (F := []) (ag_up (Or.inl rfl) (ag_hv rfl rfl ag_rf))]
              exact hW
            refine ih x32 (up2 (hv (hv J [146] [] u22) [165] [] Gl23) 165 m3.toNatClampNeg 0) H locs ls ?_ ?_ ?_ hWl (lv_sub hl [0, 1, 2, 3] rfl)
            · show (40 - x32.toInt).toNat < n
              omega
            · show 0 ≤ x32.toInt ∧ x32.toInt ≤ (J 13 35).toInt
              first | omega | exact hi | assumption
            · show ∀ h : Nat, (h : Int) < x32.toInt → (¬ ((up2 Gl23 165 m3.toNatClampNeg 0) 165 h).toInt = 0 ↔ 0 < (HFM (J 116 a0.toNatClampNeg) (J 110) (J 111) a0.toInt (J 13 36) (J 109) (J 108) (u22 146)) h)
              first | exact rowp_s hh rfl (by have h8 := tcl m3; omega) (by omega) (hm_no kp0 (hwv_0 (Or.inl (by omega)) rfl)) | exact rowp_s hh rfl (by have h8 := tcl m3; omega) (by omega) (hm_no kp0 (hwv_0 (Or.inr (hB.elim (fun q => absurd q.1 (by omega)) (fun q => q.2))) rfl)) | exact rowp_s hh rfl (by have h8 := tcl m3; omega) (by omega) (hm_no2 kp0 (hwv_ls (by omega) (hB.elim (fun q => q.2) (fun q => absurd q.1 (by omega))) hL) (by omega))
          · have c31 : ¬ x30.toInt = 6 := tne rfl kp6 c31
            refine lv_aload_n hx hb dX12_asks_54 rfl (lv_at hl 1 rfl) ?_
            refine lv_iload_n hx hb dX12_asks_55 rfl (lv_at hl 0 rfl) ?_
            refine ci_ C hW (runV (x := (g.2.2.1 13)) (As := [.int m3]) (rest := [.int m3, .ref (g.2.2.1 165)]) (T := (((hv (hv J [146] [] u22) [165] [] Gl23), L, I, P, E, N), sgM g)) C hW (c_X12_hearsNow_e l g (hv (hv J [146] [] u22) [165] [] Gl23) L I P E N H.size m3 hwm (show 0 ≤ m3.toInt ∧ m3.toInt < (J 13 35).toInt from by omega)) mi_X12_hearsNow tw_1302 (recv_ (T := (((hv (hv J [146] [] u22) [165] [] Gl23), L, I, P, E, N), sgM g)) C hW (mm_ rfl) rfl rfl) ⟨rfl, rfl, Nat.le_of_ble_eq_true rfl, Nat.le_of_ble_eq_true rfl⟩ rfl hl.1 rfl (Nat.le_of_ble_eq_true rfl) dX12_asks_56 ⟨Nat.le_of_ble_eq_true rfl, Nat.le_of_ble_eq_true rfl⟩) (fun r33 u33 H locs hp33 hW => ?_)
            have hf33_0 : (((r33.toInt : Int) = 1 ∧ (J 13 36).toInt ≤ (u22 146 (J 108 m3.toNatClampNeg).toNatClampNeg / J 109 m3.toNatClampNeg).toInt) ∨ ((r33.toInt : Int) = 0 ∧ (u22 146 (J 108 m3.toNatClampNeg).toNatClampNeg / J 109 m3.toNatClampNeg).toInt < (J 13 36).toInt)) := hp33
            clear hp33
            have hW : WB g A s.heap H locs ((hv (hv J [146] [] u22) [165] [] Gl23), L, I, P, E, N) (sgM g) := hW
            have hB := hf33_0
            refine lv_if_eq (tgt := 75) hx hb dX12_asks_59 (by decide) (fun c34 => ?_) (fun c34 => ?_)
            · have c34 : r33.toInt = 0 := teq rfl kp0 c34
              refine lv_iconst (v := 0) hx hb dX12_asks_75 (by decide) ?_
              have hin : vp_in m3 40 := tin rfl (by omega)
              refine rs_165 C hW (mm_ rfl) (y := 0) (by decide) hin dX12_asks_76 (fun H locs hW => ?_)
              obtain ⟨x35, e35⟩ : ∃ y : Int32, y = m3 + 1 := ⟨_, rfl⟩
              refine lv_iinc (v := x35) (lv' := [(3, .int x35), (0, .ref (g.2.2.1 13)), (1, .int a0), (2, .int a1)]) hx hb dX12_asks_77 hl (k := 0) rfl (by rw [e35]; rfl) (by decide) rfl (fun ls hl => ?_)
              try have t35 : x35.toInt = m3.toInt + 1 := tadd e35 rfl kp1 (by omega)
              refine lv_goto (tgt := 30) hx hb dX12_asks_80 (by decide) ?_
              have hWl : WB g A s.heap H locs ((hv (hv J [146] [] u22) [165] [] (up2 (hv (hv J [146] [] u22) [165] [] Gl23) 165 m3.toNatClampNeg 0)), L, I, P, E, N) (sgM g) := by
                rw [← ag_hvE (J := (hv J [146] [] u22)) (R := [165]) (F := []) (ag_up (Or.inl rfl) (ag_hv rfl rfl ag_rf))]
                exact hW
              refine ih x35 (up2 (hv (hv J [146] [] u22) [165] [] Gl23) 165 m3.toNatClampNeg 0) H locs ls ?_ ?_ ?_ hWl (lv_sub hl [0, 1, 2, 3] rfl)
              · show (40 - x35.toInt).toNat < n
                omega
              · show 0 ≤ x35.toInt ∧ x35.toInt ≤ (J 13 35).toInt
                first | omega | exact hi | assumption
              · show ∀ h : Nat, (h : Int) < x35.toInt → (¬ ((up2 Gl23 165 m3.toNatClampNeg 0) 165 h).toInt = 0 ↔ 0 < (HFM (J 116 a0.toNatClampNeg) (J 110) (J 111) a0.toInt (J 13 36) (J 109) (J 108) (u22 146)) h)
                first | exact rowp_s hh rfl (by have h8 := tcl m3; omega) (by omega) (hm_no kp0 (hwv_0 (Or.inl (by omega)) rfl)) | exact rowp_s hh rfl (by have h8 := tcl m3; omega) (by omega) (hm_no kp0 (hwv_0 (Or.inr (hB.elim (fun q => absurd q.1 (by omega)) (fun q => q.2))) rfl)) | exact rowp_s hh rfl (by have h8 := tcl m3; omega) (by omega) (hm_no2 kp0 (hwv_ls (by omega) (hB.elim (fun q => q.2) (fun q => absurd q.1 (by omega))) hL) (by omega))
            · have c34 : ¬ r33.toInt = 0 := tne rfl kp0 c34
              refine lv_aload_n hx hb dX12_asks_62 rfl (lv_at hl 1 rfl) ?_
              refine lv_iload_n hx hb dX12_asks_63 rfl (lv_at hl 0 rfl) ?_
              refine lv_iload_n hx hb dX12_asks_64 rfl (lv_at hl 2 rfl) ?_
              refine ci_ C hW (runV (x := (g.2.2.1 13)) (As := [.int m3, .int a0]) (rest := [.int m3, .ref (g.2.2.1 165)]) (T := (((hv (hv J [146] [] u22) [165] [] Gl23), L, I, P, E, N), sgM g)) C hW (c_X12_listens_e l g (hv (hv J [146] [] u22) [165] [] Gl23) L I P E N H.size m3 a0 hwm (show 0 ≤ m3.toInt ∧ m3.toInt < 40 from by omega) (show 0 ≤ a0.toInt ∧ a0.toInt < 10000 from by omega)) mi_X12_listens tw_1398 (recv_ (T := (((hv (hv J [146] [] u22) [165] [] Gl23), L, I, P, E, N), sgM g)) C hW (mm_ rfl) rfl rfl) ⟨rfl, rfl, Nat.le_of_ble_eq_true rfl, Nat.le_of_ble_eq_true rfl⟩ rfl hl.1 rfl (Nat.le_of_ble_eq_true rfl) dX12_asks_65 ⟨Nat.le_of_ble_eq_true rfl, Nat.le_of_ble_eq_true rfl⟩) (fun r36 u36 H locs hp36 hW => ?_)
              have hf36_0 : (((r36.toInt : Int) = 2 ∧ ((J 116 a0.toNatClampNeg).toInt = 2 ∨ BT (J 110 m3.toNatClampNeg) a0.toInt = true)) ∨ (¬ (J 116 a0.toNatClampNeg).toInt = 2 ∧ ¬ BT (J 110 m3.toNatClampNeg) a0.toInt = true ∧ (((r36.toInt : Int) = 1 ∧ BT (J 111 m3.toNatClampNeg) a0.toInt = true) ∨ ((r36.toInt : Int) = 0 ∧ ¬ BT (J 111 m3.toNatClampNeg) a0.toInt = true)))) := hp36
              clear hp36
              have hW : WB g A s.heap H locs ((hv (hv J [146] [] u22) [165] [] Gl23), L, I, P, E, N) (sgM g) := hW
              have hL := hf36_0
              refine lv_if_le (tgt := 75) hx hb dX12_asks_68 (by decide) (fun c37 => ?_) (fun c37 => ?_)
              · have c37 : r36.toInt ≤ 0 := tle rfl kp0 c37
                refine lv_iconst (v := 0) hx hb dX12_asks_75 (by decide) ?_
                have hin : vp_in m3 40 := tin rfl (by omega)
                refine rs_165 C hW (mm_ rfl) (y := 0) (by decide) hin dX12_asks_76 (fun H locs hW => ?_)
                obtain ⟨x38, e38⟩ : ∃ y : Int32, y = m3 + 1 := ⟨_, rfl⟩
                refine lv_iinc (v := x38) (lv' := [(3, .int x38), (0, .ref (g.2.2.1 13)), (1, .int a0), (2, .int a1)]) hx hb dX12_asks_77 hl (k := 0) rfl (by rw [e38]; rfl) (by decide) rfl (fun ls hl => ?_)
                try have t38 : x38.toInt = m3.toInt + 1 := tadd e38 rfl kp1 (by omega)
                refine lv_goto (tgt := 30) hx hb dX12_asks_80 (by decide) ?_
                have hWl : WB g A s.heap H locs ((hv (hv J [146] [] u22) [165] [] (up2 (hv (hv J [146] [] u22) [165] [] Gl23) 165 m3.toNatClampNeg 0)), L, I, P, E, N) (sgM g) := by
                  rw [← ag_hvE (J := (hv J [146] [] u22)) (R := [165]) (F := []) (ag_up (Or.inl rfl) (ag_hv rfl rfl ag_rf))]
                  exact hW
                refine ih x38 (up2 (hv (hv J [146] [] u22) [165] [] Gl23) 165 m3.toNatClampNeg 0) H locs ls ?_ ?_ ?_ hWl (lv_sub hl [0, 1, 2, 3] rfl)
                · show (40 - x38.toInt).toNat < n
                  omega
                · show 0 ≤ x38.toInt ∧ x38.toInt ≤ (J 13 35).toInt
                  first | omega | exact hi | assumption
                · show ∀ h : Nat, (h : Int) < x38.toInt → (¬ ((up2 Gl23 165 m3.toNatClampNeg 0) 165 h).toInt = 0 ↔ 0 < (HFM (J 116 a0.toNatClampNeg) (J 110) (J 111) a0.toInt (J 13 36) (J 109) (J 108) (u22 146)) h)
                  first | exact rowp_s hh rfl (by have h8 := tcl m3; omega) (by omega) (hm_no kp0 (hwv_0 (Or.inl (by omega)) rfl)) | exact rowp_s hh rfl (by have h8 := tcl m3; omega) (by omega) (hm_no kp0 (hwv_0 (Or.inr (hB.elim (fun q => absurd q.1 (by omega)) (fun q => q.2))) rfl)) | exact rowp_s hh rfl (by have h8 := tcl m3; omega) (by omega) (hm_no2 kp0 (hwv_ls (by omega) (hB.elim (fun q => q.2) (fun q => absurd q.1 (by omega))) hL) (by omega))
              · have c37 : 0 < r36.toInt := tnle rfl kp0 c37
                refine lv_iconst (v := 1) hx hb dX12_asks_71 (by decide) ?_
                refine lv_goto (tgt := 76) hx hb dX12_asks_72 (by decide) ?_
                have hin : vp_in m3 40 := tin rfl (by omega)
                refine rs_165 C hW (mm_ rfl) (y := 1) (by decide) hin dX12_asks_76 (fun H locs hW => ?_)
                obtain ⟨x39, e39⟩ : ∃ y : Int32, y = m3 + 1 := ⟨_, rfl⟩
                refine lv_iinc (v := x39) (lv' := [(3, .int x39), (0, .ref (g.2.2.1 13)), (1, .int a0), (2, .int a1)]) hx hb dX12_asks_77 hl (k := 0) rfl (by rw [e39]; rfl) (by decide) rfl (fun ls hl => ?_)
                try have t39 : x39.toInt = m3.toInt + 1 := tadd e39 rfl kp1 (by omega)
                refine lv_goto (tgt := 30) hx hb dX12_asks_80 (by decide) ?_
                have hWl : WB g A s.heap H locs ((hv (hv J [146] [] u22) [165] [] (up2 (hv (hv J [146] [] u22) [165] [] Gl23) 165 m3.toNatClampNeg 1)), L, I, P, E, N) (sgM g) := by
                  rw [← ag_hvE (J := (hv J [146] [] u22)) (R := [165]) (F := []) (ag_up (Or.inl rfl) (ag_hv rfl rfl ag_rf))]
                  exact hW
                refine ih x39 (up2 (hv (hv J [146] [] u22) [165] [] Gl23) 165 m3.toNatClampNeg 1) H locs ls ?_ ?_ ?_ hWl (lv_sub hl [0, 1, 2, 3] rfl)
                · show (40 - x39.toInt).toNat < n
                  omega
                · show 0 ≤ x39.toInt ∧ x39.toInt ≤ (J 13 35).toInt
                  first | omega | exact hi | assumption
                · show ∀ h : Nat, (h : Int) < x39.toInt → (¬ ((up2 Gl23 165 m3.toNatClampNeg 1) 165 h).toInt = 0 ↔ 0 < (HFM (J 116 a0.toNatClampNeg) (J 110) (J 111) a0.toInt (J 13 36) (J 109) (J 108) (u22 146)) h)
                  first | exact rowp_s hh rfl (by have h8 := tcl m3; omega) (by omega) (hm_yes kp1 (hwv_ls (by omega) (hB.elim (fun q => q.2) (fun q => absurd q.1 (by omega))) hL) (by omega))
    -- into the loop
    have hWl : WB g A s.heap H locs ((hv (hv J [146] [] u22) [165] [] (hv J [146] [] u22)), L, I, P, E, N) (sgM g) := by
      rw [← ag_hvE (J := (hv J [146] [] u22)) (R := [165]) (F := []) ag_rf]
      exact hW
    refine loop30 ((40 - (0 : Int32).toInt).toNat + 1) 0 (hv J [146] [] u22) H locs ls ?_ ?_ ?_ hWl (lv_sub hl [0, 1, 2, 3] rfl)
    · exact Nat.lt_succ_self _
    · show 0 ≤ (0 : Int32).toInt ∧ (0 : Int32).toInt ≤ (J 13 35).toInt
      try rw [kp0]
      first | omega | exact hi | assumption
    · show ∀ h : Nat, (h : Int) < (0 : Int32).toInt → (¬ (J 165 h).toInt = 0 ↔ 0 < (HFM (J 116 a0.toNatClampNeg) (J 110) (J 111) a0.toInt (J 13 36) (J 109) (J 108) (u22 146)) h)
      try rw [kp0]
      intro h hh; omega

set_option maxHeartbeats 4000000 in
set_option maxRecDepth 100000 in
theorem c_X12_coversBy_e (l : Launch) (g : gG) (J : Nat → Nat → Int32) (L : Nat → Nat → Int64) (I : Nat → Nat → Nat → Int32) (P : Nat → Nat → Nat → Option Nat) (E : Nat → Option Nat) (N : Nat → Nat) (sz : Nat) (a0 : Int32) (hwm : WM J) : Met l yX12_coversBy (WS yX12_coversBy cX12_coversBy 4 (some .int)) (RM (1) 0 0) (PC g [.ref (g.2.2.1 13), .int a0] ((J, L, I, P, E, N), sgM g) sz) (va_Qi (fun (r : Int32) (u : Unit) => (r.toInt = ((CNT (fun h => ¬ (J 165 h).toInt = 0 ∧ ¬ (J 166 h).toInt = 0 ∧ ¬ (J 110 h &&& a0).toInt = 0) (J 13 35).toInt.toNat : Nat) : Int))) (fun u t => at_ g (FR g ((J, L, I, P, E, N), sgM g) sz) ((J, L, I, P, E, N), sgM g) t) (FR g ((J, L, I, P, E, N), sgM g) sz)) 0 0 (FR g ((J, L, I, P, E, N), sgM g) sz) := by
  refine ent (by decide +kernel) (Nat.le_of_ble_eq_true rfl) ?_
  intro p e s m below meth c ls hsz C hW hr hlocks hname hl
  generalize FR g ((J, L, I, P, E, N), sgM g) sz = A at C hW ⊢
  generalize hQ9 : (va_Qi (fun (r : Int32) (u : Unit) => (r.toInt = ((CNT (fun h => ¬ (J 165 h).toInt = 0 ∧ ¬ (J 166 h).toInt = 0 ∧ ¬ (J 110 h &&& a0).toInt = 0) (J 13 35).toInt.toNat : Nat) : Int))) (fun u t => at_ g A ((J, L, I, P, E, N), sgM g) t) A) = Q9
  have hx := C.1.1
  have hb := C.1.2.1
  have hts := C.1.2.2.2.2
  have hW : WB g A s.heap s.heap [] (J, L, I, P, E, N) (sgM g) := hW
  have hl : lv_has ls 4 [(0, .ref (g.2.2.1 13)), (1, .int a0)] := hl
  obtain ⟨H, hH⟩ : ∃ H : Heap, H = s.heap := ⟨_, rfl⟩
  obtain ⟨locs, hlocs⟩ : ∃ q : List Loc, q = [] := ⟨_, rfl⟩
  have hW : WB g A s.heap H locs (J, L, I, P, E, N) (sgM g) := by rw [hH, hlocs]; exact hW
  obtain ⟨⟨hnd1, hnd2, hon, hhm1, hhm2, hhN, hcu1, hcu2, hco1, hco2, hcN⟩, ⟨hrd1, hrd2⟩, ⟨hnw1, hnw2, hns1, hns2, hof⟩, ⟨htm1, htm2, hts_⟩, ⟨had1, had2, hrw1, hrw2, htp1, htp2⟩⟩ := id hwm
  refine start_ hH hlocs ?_
  refine lv_iconst (v := 0) hx hb dX12_coversBy_0 (by decide) ?_
  refine lv_istore_n (lv' := [(2, .int 0), (0, .ref (g.2.2.1 13)), (1, .int a0)]) hx hb dX12_coversBy_1 rfl hl (by decide) rfl (fun ls hl => ?_)
  refine lv_iconst (v := 0) hx hb dX12_coversBy_2 (by decide) ?_
  refine lv_istore_n (lv' := [(3, .int 0), (2, .int 0), (0, .ref (g.2.2.1 13)), (1, .int a0)]) hx hb dX12_coversBy_3 rfl hl (by decide) rfl (fun ls hl => ?_)
  have loop4 : ∀ (n : Nat) (m2 : Int32) (m3 : Int32) (H : Heap) (locs : List Loc) (ls : Array Slot), (40 - m3.toInt).toNat < n → 0 ≤ m3.toInt ∧ m3.toInt ≤ (J 13 35).toInt ∧ 0 ≤ m2.toInt ∧ m2.toInt ≤ m3.toInt → m2.toInt = ((CNT (fun h => ¬ (J 165 h).toInt = 0 ∧ ¬ (J 166 h).toInt = 0 ∧ ¬ (J 110 h &&& a0).toInt = 0) m3.toInt.toNat : Nat) : Int) → WB g A s.heap H locs (J, L, I, P, E, N) (sgM g) → lv_has ls 4 [(3, .int m3), (2, .int m2), (0, .ref (g.2.2.1 13)), (1, .int a0)] → W p l e (RM (1) 0 0) s m ([.ref (g.2.2.1 13), .int a0] : List Value).toArray below meth c H locs 0 0 (MQ below Q9 ([.ref (g.2.2.1 13), .int a0] : List Value).toArray s 0 0 A) (F0 m 4 ls []) := by
    intro n
    induction n with
    | zero => intro m2 m3 H locs ls hmeas; exact absurd hmeas (Nat.not_lt_zero _)
    | succ n ih =>
      intro m2 m3 H locs ls hmeas hi hn hW hl
      refine lv_iload_n hx hb dX12_coversBy_4 rfl (lv_at hl 0 rfl) ?_
      refine lv_aload_n hx hb dX12_coversBy_5 rfl (lv_at hl 2 rfl) ?_
      refine rg_13_35 C hW (mm_ rfl) tw_1058 dX12_coversBy_6 ?_
      refine lv_icmp_ge (tgt := 55) hx hb dX12_coversBy_9 (by decide) (fun c1 => ?_) (fun c1 => ?_)
      · have c1 : (J 13 35).toInt ≤ m3.toInt := tle rfl rfl c1
        refine lv_iload_n hx hb dX12_coversBy_55 rfl (lv_at hl 1 rfl) ?_
        subst hQ9
        exact end_i C hr hlocks () hW (show m2.toInt = ((CNT (fun h => ¬ (J 165 h).toInt = 0 ∧ ¬ (J 166 h).toInt = 0 ∧ ¬ (J 110 h &&& a0).toInt = 0) (J 13 35).toInt.toNat : Nat) : Int) from by (have e9 : m3.toInt = (J 13 35).toInt := (by omega); rw [← e9]; exact hn)) dX12_coversBy_56
      · have c1 : m3.toInt < (J 13 35).toInt := tnle rfl rfl c1
        refine lv_iload_n hx hb dX12_coversBy_12 rfl (lv_at hl 1 rfl) ?_
        refine lv_aload_n hx hb dX12_coversBy_13 rfl (lv_at hl 2 rfl) ?_
        refine rg_13_65 C hW (mm_ rfl) tw_1088 dX12_coversBy_14 ?_
        refine lv_iload_n hx hb dX12_coversBy_17 rfl (lv_at hl 0 rfl) ?_
        have hin : vp_in m3 40 := tin rfl (by omega)
        refine ra_165 C hW (mm_ rfl) hin dX12_coversBy_18 ?_
        refine lv_topi (fun x2 (e2 : x2 = J 165 m3.toNatClampNeg) => ?_)
        have t2 : x2.toInt = (J 165 m3.toNatClampNeg).toInt := by rw [e2]
        refine lv_if_eq (tgt := 46) hx hb dX12_coversBy_19 (by decide) (fun c3 => ?_) (fun c3 => ?_)
        · have c3 : x2.toInt = 0 := teq rfl kp0 c3
          refine lv_iconst (v := 0) hx hb dX12_coversBy_46 (by decide) ?_
          refine lv_iadd hx hb dX12_coversBy_47 ?_
          refine lv_topi (fun x4 (e4 : x4 = m2 + 0) => ?_)
          try have t4 : x4.toInt = m2.toInt + 0 := tadd e4 rfl kp0 (by omega)
          refine lv_istore_n (lv' := [(2, .int x4), (3, .int m3), (0, .ref (g.2.2.1 13)), (1, .int a0)]) hx hb dX12_coversBy_48 rfl hl (by decide) rfl (fun ls hl => ?_)
          obtain ⟨x5, e5⟩ : ∃ y : Int32, y = m3 + 1 := ⟨_, rfl⟩
          refine lv_iinc (v := x5) (lv' := [(3, .int x5), (2, .int x4), (0, .ref (g.2.2.1 13)), (1, .int a0)]) hx hb dX12_coversBy_49 hl (k := 1) rfl (by rw [e5]; rfl) (by decide) rfl (fun ls hl => ?_)
          try have t5 : x5.toInt = m3.toInt + 1 := tadd e5 rfl kp1 (by omega)
          refine lv_goto (tgt := 4) hx hb dX12_coversBy_52 (by decide) ?_
          refine ih x4 x5 H locs ls ?_ ?_ ?_ hW (lv_sub hl [0, 1, 2, 3] rfl)
          · show (40 - x5.toInt).toNat < n
            omega
          · show 0 ≤ x5.toInt ∧ x5.toInt ≤ (J 13 35).toInt ∧ 0 ≤ x4.toInt ∧ x4.toInt ≤ x5.toInt
            first | omega | exact hi | assumption
          · show x4.toInt = ((CNT (fun h => ¬ (J 165 h).toInt = 0 ∧ ¬ (J 166 h).toInt = 0 ∧ ¬ (J 110 h &&& a0).toInt = 0) x5.toInt.toNat : Nat) : Int)
            exact cn_n hn (by omega) (by omega) (fun q => by have q1 : ¬ (J 165 m3.toNatClampNeg).toInt = 0 := q.1; have q2 : ¬ (J 166 m3.toNatClampNeg).toInt = 0 := q.2.1; omega) (by omega)
        · have c3 : ¬ x2.toInt = 0 := tne rfl kp0 c3
          refine lv_aload_n hx hb dX12_coversBy_22 rfl (lv_at hl 2 rfl) ?_
          refine rg_13_66 C hW (mm_ rfl) tw_1089 dX12_coversBy_23 ?_
          refine lv_iload_n hx hb dX12_coversBy_26 rfl (lv_at hl 0 rfl) ?_
          have hin : vp_in m3 40 := tin rfl (by omega)
          refine ra_166 C hW (mm_ rfl) hin dX12_coversBy_27 ?_
          refine lv_topi (fun x6 (e6 : x6 = J 166 m3.toNatClampNeg) => ?_)
          have t6 : x6.toInt = (J 166 m3.toNatClampNeg).toInt := by rw [e6]
          refine lv_if_eq (tgt := 46) hx hb dX12_coversBy_28 (by decide) (fun c7 => ?_) (fun c7 => ?_)
          · have c7 : x6.toInt = 0 := teq rfl kp0 c7
            refine lv_iconst (v := 0) hx hb dX12_coversBy_46 (by decide) ?_
            refine lv_iadd hx hb dX12_coversBy_47 ?_
            refine lv_topi (fun x8 (e8 : x8 = m2 + 0) => ?_)
            try have t8 : x8.toInt = m2.toInt + 0 := tadd e8 rfl kp0 (by omega)
            refine lv_istore_n (lv' := [(2, .int x8), (3, .int m3), (0, .ref (g.2.2.1 13)), (1, .int a0)]) hx hb dX12_coversBy_48 rfl hl (by decide) rfl (fun ls hl => ?_)
            obtain ⟨x9, e9⟩ : ∃ y : Int32, y = m3 + 1 := ⟨_, rfl⟩
            refine lv_iinc (v := x9) (lv' := [(3, .int x9), (2, .int x8), (0, .ref (g.2.2.1 13)), (1, .int a0)]) hx hb dX12_coversBy_49 hl (k := 1) rfl (by rw [e9]; rfl) (by decide) rfl (fun ls hl => ?_)
            try have t9 : x9.toInt = m3.toInt + 1 := tadd e9 rfl kp1 (by omega)
            refine lv_goto (tgt := 4) hx hb dX12_coversBy_52 (by decide) ?_
            refine ih x8 x9 H locs ls ?_ ?_ ?_ hW (lv_sub hl [0, 1, 2, 3] rfl)
            · show (40 - x9.toInt).toNat < n
              omega
            · show 0 ≤ x9.toInt ∧ x9.toInt ≤ (J 13 35).toInt ∧ 0 ≤ x8.toInt ∧ x8.toInt ≤ x9.toInt
              first | omega | exact hi | assumption
            · show x8.toInt = ((CNT (fun h => ¬ (J 165 h).toInt = 0 ∧ ¬ (J 166 h).toInt = 0 ∧ ¬ (J 110 h &&& a0).toInt = 0) x9.toInt.toNat : Nat) : Int)
              exact cn_n hn (by omega) (by omega) (fun q => by have q1 : ¬ (J 165 m3.toNatClampNeg).toInt = 0 := q.1; have q2 : ¬ (J 166 m3.toNatClampNeg).toInt = 0 := q.2.1; omega) (by omega)
          · have c7 : ¬ x6.toInt = 0 := tne rfl kp0 c7
            refine lv_aload_n hx hb dX12_coversBy_31 rfl (lv_at hl 2 rfl) ?_
            refine rg_13_10 C hW (mm_ rfl) tw_1033 dX12_coversBy_32 ?_
            refine lv_iload_n hx hb dX12_coversBy_35 rfl (lv_at hl 0 rfl) ?_
            have hin : vp_in m3 40 := tin rfl (by omega)
            refine ra_110 C hW (mm_ rfl) hin dX12_coversBy_36 ?_
            refine lv_topi (fun x10 (e10 : x10 = J 110 m3.toNatClampNeg) => ?_)
            refine lv_iload_n hx hb dX12_coversBy_37 rfl (lv_at hl 3 rfl) ?_
            refine lv_iand hx hb dX12_coversBy_38 ?_
            refine lv_topi (fun x11 (e11 : x11 = x10 &&& a0) => ?_)
            refine lv_if_eq (tgt := 46) hx hb dX12_coversBy_39 (by decide) (fun c12 => ?_) (fun c12 => ?_)
            · have c12 : x11.toInt = 0 := teq rfl kp0 c12
              refine lv_iconst (v := 0) hx hb dX12_coversBy_46 (by decide) ?_
              refine lv_iadd hx hb dX12_coversBy_47 ?_
              refine lv_topi (fun x13 (e13 : x13 = m2 + 0) => ?_)
              try have t13 : x13.toInt = m2.toInt + 0 := tadd e13 rfl kp0 (by omega)
              refine lv_istore_n (lv' := [(2, .int x13), (3, .int m3), (0, .ref (g.2.2.1 13)), (1, .int a0)]) hx hb dX12_coversBy_48 rfl hl (by decide) rfl (fun ls hl => ?_)
              obtain ⟨x14, e14⟩ : ∃ y : Int32, y = m3 + 1 := ⟨_, rfl⟩
              refine lv_iinc (v := x14) (lv' := [(3, .int x14), (2, .int x13), (0, .ref (g.2.2.1 13)), (1, .int a0)]) hx hb dX12_coversBy_49 hl (k := 1) rfl (by rw [e14]; rfl) (by decide) rfl (fun ls hl => ?_)
              try have t14 : x14.toInt = m3.toInt + 1 := tadd e14 rfl kp1 (by omega)
              refine lv_goto (tgt := 4) hx hb dX12_coversBy_52 (by decide) ?_
              refine ih x13 x14 H locs ls ?_ ?_ ?_ hW (lv_sub hl [0, 1, 2, 3] rfl)
              · show (40 - x14.toInt).toNat < n
                omega
              · show 0 ≤ x14.toInt ∧ x14.toInt ≤ (J 13 35).toInt ∧ 0 ≤ x13.toInt ∧ x13.toInt ≤ x14.toInt
                first | omega | exact hi | assumption
              · show x13.toInt = ((CNT (fun h => ¬ (J 165 h).toInt = 0 ∧ ¬ (J 166 h).toInt = 0 ∧ ¬ (J 110 h &&& a0).toInt = 0) x14.toInt.toNat : Nat) : Int)
                have e9 := (show x11 = J 110 m3.toNatClampNeg &&& a0 from by rw [e11, e10]); first | exact cn_y hn (by omega) (by omega) ⟨by show ¬ (J 165 m3.toNatClampNeg).toInt = 0; omega, by show ¬ (J 166 m3.toNatClampNeg).toInt = 0; omega, by show ¬ (J 110 m3.toNatClampNeg &&& a0).toInt = 0; rw [← e9]; omega⟩ (by omega) | exact cn_n hn (by omega) (by omega) (fun q => by have q9 : ¬ (J 110 m3.toNatClampNeg &&& a0).toInt = 0 := q.2.2; rw [← e9] at q9; omega) (by omega)
            · have c12 : ¬ x11.toInt = 0 := tne rfl kp0 c12
              refine lv_iconst (v := 1) hx hb dX12_coversBy_42 (by decide) ?_
              refine lv_goto (tgt := 47) hx hb dX12_coversBy_43 (by decide) ?_
              refine lv_iadd hx hb dX12_coversBy_47 ?_
              refine lv_topi (fun x15 (e15 : x15 = m2 + 1) => ?_)
              try have t15 : x15.toInt = m2.toInt + 1 := tadd e15 rfl kp1 (by omega)
              refine lv_istore_n (lv' := [(2, .int x15), (3, .int m3), (0, .ref (g.2.2.1 13)), (1, .int a0)]) hx hb dX12_coversBy_48 rfl hl (by decide) rfl (fun ls hl => ?_)
              obtain ⟨x16, e16⟩ : ∃ y : Int32, y = m3 + 1 := ⟨_, rfl⟩
              refine lv_iinc (v := x16) (lv' := [(3, .int x16), (2, .int x15), (0, .ref (g.2.2.1 13)), (1, .int a0)]) hx hb dX12_coversBy_49 hl (k := 1) rfl (by rw [e16]; rfl) (by decide) rfl (fun ls hl => ?_)
              try have t16 : x16.toInt = m3.toInt + 1 := tadd e16 rfl kp1 (by omega)
              refine lv_goto (tgt := 4) hx hb dX12_coversBy_52 (by decide) ?_
              refine ih x15 x16 H locs ls ?_ ?_ ?_ hW (lv_sub hl [0, 1, 2, 3] rfl)
              · show (40 - x16.toInt).toNat < n
                omega
              · show 0 ≤ x16.toInt ∧ x16.toInt ≤ (J 13 35).toInt ∧ 0 ≤ x15.toInt ∧ x15.toInt ≤ x16.toInt
                first | omega | exact hi | assumption
              · show x15.toInt = ((CNT (fun h => ¬ (J 165 h).toInt = 0 ∧ ¬ (J 166 h).toInt = 0 ∧ ¬ (J 110 h &&& a0).toInt = 0) x16.toInt.toNat : Nat) : Int)
                have e9 := (show x11 = J 110 m3.toNatClampNeg &&& a0 from by rw [e11, e10]); first | exact cn_y hn (by omega) (by omega) ⟨by show ¬ (J 165 m3.toNatClampNeg).toInt = 0; omega, by show ¬ (J 166 m3.toNatClampNeg).toInt = 0; omega, by show ¬ (J 110 m3.toNatClampNeg &&& a0).toInt = 0; rw [← e9]; omega⟩ (by omega) | exact cn_n hn (by omega) (by omega) (fun q => by have q9 : ¬ (J 110 m3.toNatClampNeg &&& a0).toInt = 0 := q.2.2; rw [← e9] at q9; omega) (by omega)
  -- into the loop
  refine loop4 ((40 - (0 : Int32).toInt).toNat + 1) 0 0 H locs ls ?_ ?_ ?_ hW (lv_sub hl [0, 1, 2, 3] rfl)
  · exact Nat.lt_succ_self _
  · show 0 ≤ (0 : Int32).toInt ∧ (0 : Int32).toInt ≤ (J 13 35).toInt ∧ 0 ≤ (0 : Int32).toInt ∧ (0 : Int32).toInt ≤ (0 : Int32).toInt
    try rw [kp0]
    try rw [kp0]
    first | omega | exact hi | assumption
  · show (0 : Int32).toInt = ((CNT (fun h => ¬ (J 165 h).toInt = 0 ∧ ¬ (J 166 h).toInt = 0 ∧ ¬ (J 110 h &&& a0).toInt = 0) (0 : Int32).toInt.toNat : Nat) : Int)
    try rw [kp0]
    try rw [kp0]
    rfl

set_option maxHeartbeats 4000000 in
set_option maxRecDepth 100000 in
theorem c_X12_wrongHours_e (l : Launch) (g : gG) (J : Nat → Nat → Int32) (L : Nat → Nat → Int64) (I : Nat → Nat → Nat → Int32) (P : Nat → Nat → Nat → Option Nat) (E : Nat → Option Nat) (N : Nat → Nat) (sz : Nat) (a0 : Int32) (a1 : Int32) (a2 : Int32) (hwm : WM J) : Met l yX12_wrongHours (WS yX12_wrongHours cX12_wrongHours 4 (some .int)) (RM (3) 0 0) (PC g [.ref (g.2.2.1 13), .int a0, .int a1, .int a2] ((J, L, I, P, E, N), sgM g) sz) (va_Qi (fun (r : Int32) (u : Unit) => ((r.toInt = (-1) ∧ (¬ (0 ≤ a0.toInt ∧ a0.toInt < (J 13 31).toInt))) ∨ (r.toInt = (-4) ∧ ((0 ≤ a0.toInt ∧ a0.toInt < (J 13 31).toInt) ∧ (a1.toInt < 0 ∨ a2.toInt < 1))) ∨ (r.toInt = (-6) ∧ ((0 ≤ a0.toInt ∧ a0.toInt < (J 13 31).toInt) ∧ 0 ≤ a1.toInt ∧ 1 ≤ a2.toInt ∧ (16777215 < a1.toInt ∨ 999 < a2.toInt))) ∨ (r.toInt = 0 ∧ ((0 ≤ a0.toInt ∧ a0.toInt < (J 13 31).toInt) ∧ 0 ≤ a1.toInt ∧ a1.toInt ≤ 16777215 ∧ 1 ≤ a2.toInt ∧ a2.toInt ≤ 999)))) (fun u t => at_ g (FR g ((J, L, I, P, E, N), sgM g) sz) ((J, L, I, P, E, N), sgM g) t) (FR g ((J, L, I, P, E, N), sgM g) sz)) 0 0 (FR g ((J, L, I, P, E, N), sgM g) sz) := by
  refine ent (by decide +kernel) (Nat.le_of_ble_eq_true rfl) ?_
  intro p e s m below meth c ls hsz C hW hr hlocks hname hl
  generalize FR g ((J, L, I, P, E, N), sgM g) sz = A at C hW ⊢
  generalize hQ9 : (va_Qi (fun (r : Int32) (u : Unit) => ((r.toInt = (-1) ∧ (¬ (0 ≤ a0.toInt ∧ a0.toInt < (J 13 31).toInt))) ∨ (r.toInt = (-4) ∧ ((0 ≤ a0.toInt ∧ a0.toInt < (J 13 31).toInt) ∧ (a1.toInt < 0 ∨ a2.toInt < 1))) ∨ (r.toInt = (-6) ∧ ((0 ≤ a0.toInt ∧ a0.toInt < (J 13 31).toInt) ∧ 0 ≤ a1.toInt ∧ 1 ≤ a2.toInt ∧ (16777215 < a1.toInt ∨ 999 < a2.toInt))) ∨ (r.toInt = 0 ∧ ((0 ≤ a0.toInt ∧ a0.toInt < (J 13 31).toInt) ∧ 0 ≤ a1.toInt ∧ a1.toInt ≤ 16777215 ∧ 1 ≤ a2.toInt ∧ a2.toInt ≤ 999)))) (fun u t => at_ g A ((J, L, I, P, E, N), sgM g) t) A) = Q9
  have hx := C.1.1
  have hb := C.1.2.1
  have hts := C.1.2.2.2.2
  have hW : WB g A s.heap s.heap [] (J, L, I, P, E, N) (sgM g) := hW
  have hl : lv_has ls 4 [(0, .ref (g.2.2.1 13)), (1, .int a0), (2, .int a1), (3, .int a2)] := hl
  obtain ⟨H, hH⟩ : ∃ H : Heap, H = s.heap := ⟨_, rfl⟩
  obtain ⟨locs, hlocs⟩ : ∃ q : List Loc, q = [] := ⟨_, rfl⟩
  have hW : WB g A s.heap H locs (J, L, I, P, E, N) (sgM g) := by rw [hH, hlocs]; exact hW
  obtain ⟨⟨hnd1, hnd2, hon, hhm1, hhm2, hhN, hcu1, hcu2, hco1, hco2, hcN⟩, ⟨hrd1, hrd2⟩, ⟨hnw1, hnw2, hns1, hns2, hof⟩, ⟨htm1, htm2, hts_⟩, ⟨had1, had2, hrw1, hrw2, htp1, htp2⟩⟩ := id hwm
  refine start_ hH hlocs ?_
  refine lv_aload_n hx hb dX12_wrongHours_0 rfl (lv_at hl 0 rfl) ?_
  refine lv_iload_n hx hb dX12_wrongHours_1 rfl (lv_at hl 1 rfl) ?_
  refine ci_ C hW (runV (x := (g.2.2.1 13)) (As := [.int a0]) (rest := []) (T := ((J, L, I, P, E, N), sgM g)) C hW (c_X12_isPast l g J L I P E N H.size a0 hwm) mi_X12_isPast tw_1326 (recv_ (T := ((J, L, I, P, E, N), sgM g)) C hW (mm_ rfl) rfl rfl) ⟨rfl, rfl, Nat.le_of_ble_eq_true rfl, Nat.le_of_ble_eq_true rfl⟩ rfl hl.1 rfl (Nat.le_of_ble_eq_true rfl) dX12_wrongHours_2 ⟨Nat.le_of_ble_eq_true rfl, Nat.le_of_ble_eq_true rfl⟩) (fun r1 u1 H locs hp1 hW => ?_)
  have hc1 : ((r1.toInt = 1 ∧ (0 ≤ a0.toInt ∧ a0.toInt < (J 13 31).toInt)) ∨ (r1.toInt = 0 ∧ (¬ (0 ≤ a0.toInt ∧ a0.toInt < (J 13 31).toInt)))) := hp1
  clear hp1
  have hW : WB g A s.heap H locs (J, L, I, P, E, N) (sgM g) := hW
  refine lv_if_ne (tgt := 12) hx hb dX12_wrongHours_5 (by decide) (fun c2 => ?_) (fun c2 => ?_)
  · have c2 : ¬ r1.toInt = 0 := tne rfl kp0 c2
    refine lv_iload_n hx hb dX12_wrongHours_12 rfl (lv_at hl 2 rfl) ?_
    refine lv_if_lt (tgt := 21) hx hb dX12_wrongHours_13 (by decide) (fun c3 => ?_) (fun c3 => ?_)
    · have c3 : a1.toInt < 0 := tlt rfl kp0 c3
      refine lv_bipush (v := (-4)) hx hb dX12_wrongHours_21 (by decide) ?_
      refine lv_goto (tgt := 45) hx hb dX12_wrongHours_23 (by decide) ?_
      subst hQ9
      exact end_i C hr hlocks () hW (by first | exact Or.inr (Or.inl ⟨by decide, by omega⟩)) dX12_wrongHours_45
    · have c3 : 0 ≤ a1.toInt := tnlt rfl kp0 c3
      refine lv_iload_n hx hb dX12_wrongHours_16 rfl (lv_at hl 3 rfl) ?_
      refine lv_iconst (v := 1) hx hb dX12_wrongHours_17 (by decide) ?_
      refine lv_icmp_ge (tgt := 26) hx hb dX12_wrongHours_18 (by decide) (fun c4 => ?_) (fun c4 => ?_)
      · have c4 : 1 ≤ a2.toInt := tle kp1 rfl c4
        refine lv_iload_n hx hb dX12_wrongHours_26 rfl (lv_at hl 2 rfl) ?_
        refine lv_ldc hx hb C.1.2.2.2.1 (hts _ tw_1289) dX12_wrongHours_27 ?_
        refine lv_icmp_gt (tgt := 39) hx hb dX12_wrongHours_29 (by decide) (fun c5 => ?_) (fun c5 => ?_)
        · have c5 : 16777215 < a1.toInt := tlt kp16777215 rfl c5
          refine lv_bipush (v := (-6)) hx hb dX12_wrongHours_39 (by decide) ?_
          refine lv_goto (tgt := 45) hx hb dX12_wrongHours_41 (by decide) ?_
          subst hQ9
          exact end_i C hr hlocks () hW (by first | exact Or.inr (Or.inr (Or.inl ⟨by decide, by omega⟩))) dX12_wrongHours_45
        · have c5 : a1.toInt ≤ 16777215 := tnlt kp16777215 rfl c5
          refine lv_iload_n hx hb dX12_wrongHours_32 rfl (lv_at hl 3 rfl) ?_
          refine lv_sipush (v := 999) hx hb dX12_wrongHours_33 (by decide) ?_
          refine lv_icmp_le (tgt := 44) hx hb dX12_wrongHours_36 (by decide) (fun c6 => ?_) (fun c6 => ?_)
          · have c6 : a2.toInt ≤ 999 := tle rfl kp999 c6
            refine lv_iconst (v := 0) hx hb dX12_wrongHours_44 (by decide) ?_
            subst hQ9
            exact end_i C hr hlocks () hW (by first | exact Or.inr (Or.inr (Or.inr (⟨by decide, by omega⟩)))) dX12_wrongHours_45
          · have c6 : 999 < a2.toInt := tnle rfl kp999 c6
            refine lv_bipush (v := (-6)) hx hb dX12_wrongHours_39 (by decide) ?_
            refine lv_goto (tgt := 45) hx hb dX12_wrongHours_41 (by decide) ?_
            subst hQ9
            exact end_i C hr hlocks () hW (by first | exact Or.inr (Or.inr (Or.inl ⟨by decide, by omega⟩))) dX12_wrongHours_45
      · have c4 : a2.toInt < 1 := tnle kp1 rfl c4
        refine lv_bipush (v := (-4)) hx hb dX12_wrongHours_21 (by decide) ?_
        refine lv_goto (tgt := 45) hx hb dX12_wrongHours_23 (by decide) ?_
        subst hQ9
        exact end_i C hr hlocks () hW (by first | exact Or.inr (Or.inl ⟨by decide, by omega⟩)) dX12_wrongHours_45
  · have c2 : r1.toInt = 0 := teq rfl kp0 c2
    refine lv_iconst (v := (-1)) hx hb dX12_wrongHours_8 (by decide) ?_
    refine lv_goto (tgt := 45) hx hb dX12_wrongHours_9 (by decide) ?_
    subst hQ9
    exact end_i C hr hlocks () hW (by first | exact Or.inl ⟨by decide, by omega⟩) dX12_wrongHours_45

set_option maxHeartbeats 4000000 in
set_option maxRecDepth 100000 in
theorem c_X12_covers_e (l : Launch) (g : gG) (J : Nat → Nat → Int32) (L : Nat → Nat → Int64) (I : Nat → Nat → Nat → Int32) (P : Nat → Nat → Nat → Option Nat) (E : Nat → Option Nat) (N : Nat → Nat) (sz : Nat) (a0 : Int32) (a1 : Int32) (a2 : Int32) (hwm : WM J) : Met l yX12_covers (WS yX12_covers cX12_covers 5 (some .int)) (RM (5) 0 0) (PC g [.ref (g.2.2.1 13), .int a0, .int a1, .int a2] ((J, L, I, P, E, N), sgM g) sz) (va_Qi (fun (r : Int32) (u : (Nat → Nat → Int32)) => ((r.toInt = (-1) ∧ (¬ (0 ≤ a0.toInt ∧ a0.toInt < (J 13 31).toInt))) ∨ (r.toInt = (-4) ∧ ((0 ≤ a0.toInt ∧ a0.toInt < (J 13 31).toInt) ∧ (a1.toInt < 0 ∨ a2.toInt < 1))) ∨ (r.toInt = (-6) ∧ ((0 ≤ a0.toInt ∧ a0.toInt < (J 13 31).toInt) ∧ 0 ≤ a1.toInt ∧ 1 ≤ a2.toInt ∧ (16777215 < a1.toInt ∨ 999 < a2.toInt))) ∨ (r = r ∧ ((0 ≤ a0.toInt ∧ a0.toInt < (J 13 31).toInt) ∧ 0 ≤ a1.toInt ∧ a1.toInt ≤ 16777215 ∧ 1 ≤ a2.toInt ∧ a2.toInt ≤ 999) ∧ (∃ y y2 : Nat → Int32, (¬ (J 116 a0.toNatClampNeg).toInt = 6 → SND y (J 101) (J 102) (J 103) (J 104) (fun k => 0 ≤ a0.toInt ∧ CUTP (J 105) (J 106) (J 107) (J 13 34).toInt a0.toInt k) (J 118 a0.toNatClampNeg) (J 120 a0.toNatClampNeg) (J 13 32).toInt) ∧ SND y2 (J 101) (J 102) (J 103) (J 104) (fun k => 0 ≤ (-1 : Int32).toInt ∧ CUTP (J 105) (J 106) (J 107) (J 13 34).toInt (-1 : Int32).toInt k) a2 (J 13 33) (J 13 32).toInt ∧ r.toInt = ((CNT (fun h => LSM (J 116 a0.toNatClampNeg) (J 110) (J 111) a0.toInt (J 13 36) (J 109) (J 108) y y2 h ∧ ¬ (J 110 h &&& a1).toInt = 0) (J 13 35).toInt.toNat : Nat) : Int))))) (fun u t => at_ g (FR g ((J, L, I, P, E, N), sgM g) sz) ((hv J [100, 146, 165, 166] [] u, L, I, P, E, N), sgM g) t) (FR g ((J, L, I, P, E, N), sgM g) sz)) 0 0 (FR g ((J, L, I, P, E, N), sgM g) sz) := by
  refine ent (by decide +kernel) (Nat.le_of_ble_eq_true rfl) ?_
  intro p e s m below meth c ls hsz C hW hr hlocks hname hl
  generalize FR g ((J, L, I, P, E, N), sgM g) sz = A at C hW ⊢
  generalize hQ9 : (va_Qi (fun (r : Int32) (u : (Nat → Nat → Int32)) => ((r.toInt = (-1) ∧ (¬ (0 ≤ a0.toInt ∧ a0.toInt < (J 13 31).toInt))) ∨ (r.toInt = (-4) ∧ ((0 ≤ a0.toInt ∧ a0.toInt < (J 13 31).toInt) ∧ (a1.toInt < 0 ∨ a2.toInt < 1))) ∨ (r.toInt = (-6) ∧ ((0 ≤ a0.toInt ∧ a0.toInt < (J 13 31).toInt) ∧ 0 ≤ a1.toInt ∧ 1 ≤ a2.toInt ∧ (16777215 < a1.toInt ∨ 999 < a2.toInt))) ∨ (r = r ∧ ((0 ≤ a0.toInt ∧ a0.toInt < (J 13 31).toInt) ∧ 0 ≤ a1.toInt ∧ a1.toInt ≤ 16777215 ∧ 1 ≤ a2.toInt ∧ a2.toInt ≤ 999) ∧ (∃ y y2 : Nat → Int32, (¬ (J 116 a0.toNatClampNeg).toInt = 6 → SND y (J 101) (J 102) (J 103) (J 104) (fun k => 0 ≤ a0.toInt ∧ CUTP (J 105) (J 106) (J 107) (J 13 34).toInt a0.toInt k) (J 118 a0.toNatClampNeg) (J 120 a0.toNatClampNeg) (J 13 32).toInt) ∧ SND y2 (J 101) (J 102) (J 103) (J 104) (fun k => 0 ≤ (-1 : Int32).toInt ∧ CUTP (J 105) (J 106) (J 107) (J 13 34).toInt (-1 : Int32).toInt k) a2 (J 13 33) (J 13 32).toInt ∧ r.toInt = ((CNT (fun h => LSM (J 116 a0.toNatClampNeg) (J 110) (J 111) a0.toInt (J 13 36) (J 109) (J 108) y y2 h ∧ ¬ (J 110 h &&& a1).toInt = 0) (J 13 35).toInt.toNat : Nat) : Int))))) (fun u t => at_ g A ((hv J [100, 146, 165, 166] [] u, L, I, P, E, N), sgM g) t) A) = Q9
  have hx := C.1.1
  have hb := C.1.2.1
  have hts := C.1.2.2.2.2
  have hW : WB g A s.heap s.heap [] (J, L, I, P, E, N) (sgM g) := hW
  have hl : lv_has ls 5 [(0, .ref (g.2.2.1 13)), (1, .int a0), (2, .int a1), (3, .int a2)] := hl
  obtain ⟨H, hH⟩ : ∃ H : Heap, H = s.heap := ⟨_, rfl⟩
  obtain ⟨locs, hlocs⟩ : ∃ q : List Loc, q = [] := ⟨_, rfl⟩
  have hW : WB g A s.heap H locs (J, L, I, P, E, N) (sgM g) := by rw [hH, hlocs]; exact hW
  obtain ⟨⟨hnd1, hnd2, hon, hhm1, hhm2, hhN, hcu1, hcu2, hco1, hco2, hcN⟩, ⟨hrd1, hrd2⟩, ⟨hnw1, hnw2, hns1, hns2, hof⟩, ⟨htm1, htm2, hts_⟩, ⟨had1, had2, hrw1, hrw2, htp1, htp2⟩⟩ := id hwm
  refine start_ hH hlocs ?_
  refine lv_aload_n hx hb dX12_covers_0 rfl (lv_at hl 0 rfl) ?_
  refine lv_iload_n hx hb dX12_covers_1 rfl (lv_at hl 1 rfl) ?_
  refine lv_iload_n hx hb dX12_covers_2 rfl (lv_at hl 2 rfl) ?_
  refine lv_iload_n hx hb dX12_covers_3 rfl (lv_at hl 3 rfl) ?_
  refine ci_ C hW (runV (x := (g.2.2.1 13)) (As := [.int a0, .int a1, .int a2]) (rest := []) (T := ((J, L, I, P, E, N), sgM g)) C hW (c_X12_wrongHours_e l g J L I P E N H.size a0 a1 a2 hwm) mi_X12_wrongHours tw_1479 (recv_ (T := ((J, L, I, P, E, N), sgM g)) C hW (mm_ rfl) rfl rfl) ⟨rfl, rfl, Nat.le_of_ble_eq_true rfl, Nat.le_of_ble_eq_true rfl⟩ rfl hl.1 rfl (Nat.le_of_ble_eq_true rfl) dX12_covers_4 ⟨Nat.le_of_ble_eq_true rfl, Nat.le_of_ble_eq_true rfl⟩) (fun r1 u1 H locs hp1 hW => ?_)
  have hc1 : ((r1.toInt = (-1) ∧ (¬ (0 ≤ a0.toInt ∧ a0.toInt < (J 13 31).toInt))) ∨ (r1.toInt = (-4) ∧ ((0 ≤ a0.toInt ∧ a0.toInt < (J 13 31).toInt) ∧ (a1.toInt < 0 ∨ a2.toInt < 1))) ∨ (r1.toInt = (-6) ∧ ((0 ≤ a0.toInt ∧ a0.toInt < (J 13 31).toInt) ∧ 0 ≤ a1.toInt ∧ 1 ≤ a2.toInt ∧ (16777215 < a1.toInt ∨ 999 < a2.toInt))) ∨ (r1.toInt = 0 ∧ ((0 ≤ a0.toInt ∧ a0.toInt < (J 13 31).toInt) ∧ 0 ≤ a1.toInt ∧ a1.toInt ≤ 16777215 ∧ 1 ≤ a2.toInt ∧ a2.toInt ≤ 999))) := hp1
  clear hp1
  have hW : WB g A s.heap H locs (J, L, I, P, E, N) (sgM g) := hW
  refine lv_istore (lv' := [(4, .int r1), (0, .ref (g.2.2.1 13)), (1, .int a0), (2, .int a1), (3, .int a2)]) hx hb dX12_covers_7 hl (by decide) rfl (fun ls hl => ?_)
  refine lv_iload hx hb dX12_covers_9 (lv_at hl 0 rfl) ?_
  refine lv_if_eq (tgt := 21) hx hb dX12_covers_11 (by decide) (fun c2 => ?_) (fun c2 => ?_)
  · have c2 : r1.toInt = 0 := teq rfl kp0 c2
    refine lv_aload_n hx hb dX12_covers_21 rfl (lv_at hl 1 rfl) ?_
    refine lv_iload_n hx hb dX12_covers_22 rfl (lv_at hl 2 rfl) ?_
    refine lv_iload_n hx hb dX12_covers_23 rfl (lv_at hl 4 rfl) ?_
    refine cv_ C hW (runV (x := (g.2.2.1 13)) (As := [.int a0, .int a2]) (rest := []) (T := ((J, L, I, P, E, N), sgM g)) C hW (c_X12_asks_e l g J L I P E N H.size a0 a2 hwm (show 0 ≤ a0.toInt ∧ a0.toInt < 10000 from by omega)) mi_X12_asks tw_1483 (recv_ (T := ((J, L, I, P, E, N), sgM g)) C hW (mm_ rfl) rfl rfl) ⟨rfl, rfl, Nat.le_of_ble_eq_true rfl, Nat.le_of_ble_eq_true rfl⟩ rfl hl.1 rfl (Nat.le_of_ble_eq_true rfl) dX12_covers_24 ⟨Nat.le_of_ble_eq_true rfl, Nat.le_of_ble_eq_true rfl⟩) (fun u3 H locs hp3 hW => ?_)
    have hf3_0 : (∃ y y2 : Nat → Int32, (¬ (J 116 a0.toNatClampNeg).toInt = 6 → SND y (J 101) (J 102) (J 103) (J 104) (fun k => 0 ≤ a0.toInt ∧ CUTP (J 105) (J 106) (J 107) (J 13 34).toInt a0.toInt k) (J 118 a0.toNatClampNeg) (J 120 a0.toNatClampNeg) (J 13 32).toInt) ∧ SND y2 (J 101) (J 102) (J 103) (J 104) (fun k => 0 ≤ (-1 : Int32).toInt ∧ CUTP (J 105) (J 106) (J 107) (J 13 34).toInt (-1 : Int32).toInt k) a2 (J 13 33) (J 13 32).toInt ∧ (∀ h : Nat, (h : Int) < (J 13 35).toInt → (¬ (u3 165 h).toInt = 0 ↔ 0 < (HFM (J 116 a0.toNatClampNeg) (J 110) (J 111) a0.toInt (J 13 36) (J 109) (J 108) y) h)) ∧ ∀ h : Nat, (h : Int) < (J 13 35).toInt → (¬ (u3 166 h).toInt = 0 ↔ (J 13 36).toInt ≤ (y2 (J 108 h).toNatClampNeg / J 109 h).toInt)) := hp3
    clear hp3
    have hW : WB g A s.heap H locs ((hv J [146, 165, 166] [] u3), L, I, P, E, N) (sgM g) := hW
    have hAS := hf3_0
    refine lv_aload_n hx hb dX12_covers_27 rfl (lv_at hl 1 rfl) ?_
    refine lv_iload_n hx hb dX12_covers_28 rfl (lv_at hl 3 rfl) ?_
    refine ci_ C hW (runV (x := (g.2.2.1 13)) (As := [.int a1]) (rest := []) (T := (((hv J [146, 165, 166] [] u3), L, I, P, E, N), sgM g)) C hW (c_X12_coversBy_e l g (hv J [146, 165, 166] [] u3) L I P E N H.size a1 hwm) mi_X12_coversBy tw_1487 (recv_ (T := (((hv J [146, 165, 166] [] u3), L, I, P, E, N), sgM g)) C hW (mm_ rfl) rfl rfl) ⟨rfl, rfl, Nat.le_of_ble_eq_true rfl, Nat.le_of_ble_eq_true rfl⟩ rfl hl.1 rfl (Nat.le_of_ble_eq_true rfl) dX12_covers_29 ⟨Nat.le_of_ble_eq_true rfl, Nat.le_of_ble_eq_true rfl⟩) (fun r4 u4 H locs hp4 hW => ?_)
    have hf4_0 : (r4.toInt = ((CNT (fun h => ¬ (u3 165 h).toInt = 0 ∧ ¬ (u3 166 h).toInt = 0 ∧ ¬ (J 110 h &&& a1).toInt = 0) (J 13 35).toInt.toNat : Nat) : Int)) := hp4
    clear hp4
    have hW : WB g A s.heap H locs ((hv J [146, 165, 166] [] u3), L, I, P, E, N) (sgM g) := hW
    have hCB := hf4_0
    have hWr : WB g A s.heap H locs (hv J [100, 146, 165, 166] [] (hv J [146, 165, 166] [] u3), L, I, P, E, N) (sgM g) := by
      rw [← ag_hvE (J := J) (R := [100, 146, 165, 166]) (F := []) (ag_hv rfl rfl ag_rf)]
      exact hW
    subst hQ9
    exact end_i C hr hlocks (hv J [146, 165, 166] [] u3) hWr (by first | exact Or.inr (Or.inr (Or.inr (⟨by first | rfl | assumption, by omega, show (∃ y y2 : Nat → Int32, (¬ (J 116 a0.toNatClampNeg).toInt = 6 → SND y (J 101) (J 102) (J 103) (J 104) (fun k => 0 ≤ a0.toInt ∧ CUTP (J 105) (J 106) (J 107) (J 13 34).toInt a0.toInt k) (J 118 a0.toNatClampNeg) (J 120 a0.toNatClampNeg) (J 13 32).toInt) ∧ SND y2 (J 101) (J 102) (J 103) (J 104) (fun k => 0 ≤ (-1 : Int32).toInt ∧ CUTP (J 105) (J 106) (J 107) (J 13 34).toInt (-1 : Int32).toInt k) a2 (J 13 33) (J 13 32).toInt ∧ r4.toInt = ((CNT (fun h => LSM (J 116 a0.toNatClampNeg) (J 110) (J 111) a0.toInt (J 13 36) (J 109) (J 108) y y2 h ∧ ¬ (J 110 h &&& a1).toInt = 0) (J 13 35).toInt.toNat : Nat) : Int)) from (by obtain ⟨y9, y8, h1, h2, h3, h4⟩ := hAS; exact ⟨y9, y8, h1, h2, hCB.trans (congrArg (fun n : Nat => (n : Int)) (cnt_c (fun k hk => by rw [h3 k (by omega), h4 k (by omega)]; exact ⟨fun q => ⟨⟨q.1, q.2.1⟩, q.2.2⟩, fun q => ⟨q.1.1, q.1.2, q.2⟩⟩)))⟩)⟩)))) dX12_covers_32
  · have c2 : ¬ r1.toInt = 0 := tne rfl kp0 c2
    refine lv_aload_n hx hb dX12_covers_14 rfl (lv_at hl 1 rfl) ?_
    refine lv_iload hx hb dX12_covers_15 (lv_at hl 0 rfl) ?_
    refine ci_ C hW (runV (x := (g.2.2.1 13)) (As := [.int r1]) (rest := []) (T := ((J, L, I, P, E, N), sgM g)) C hW (c_X12_refuse l g J L I P E N H.size r1 (show -6 ≤ r1.toInt ∧ r1.toInt ≤ -1 from by omega)) mi_X12_refuse tw_1239 (recv_ (T := ((J, L, I, P, E, N), sgM g)) C hW (mm_ rfl) rfl rfl) ⟨rfl, rfl, Nat.le_of_ble_eq_true rfl, Nat.le_of_ble_eq_true rfl⟩ rfl hl.1 rfl (Nat.le_of_ble_eq_true rfl) dX12_covers_17 ⟨Nat.le_of_ble_eq_true rfl, Nat.le_of_ble_eq_true rfl⟩) (fun r5 u5 H locs hp5 hW => ?_)
    have hc5 : ((r5 = r1)) := hp5
    clear hp5
    have hr5 : r5.toInt = (r1).toInt := by rw [hc5]
    have hW : WB g A s.heap H locs ((hv J [100] [] u5), L, I, P, E, N) (sgM g) := hW
    have hWr : WB g A s.heap H locs (hv J [100, 146, 165, 166] [] (hv J [100] [] u5), L, I, P, E, N) (sgM g) := by
      rw [← ag_hvE (J := J) (R := [100, 146, 165, 166]) (F := []) (ag_hv rfl rfl ag_rf)]
      exact hW
    subst hQ9
    exact end_i C hr hlocks (hv J [100] [] u5) hWr (by first | exact Or.inl ⟨by omega, by omega⟩ | exact Or.inr (Or.inl ⟨by omega, by omega⟩) | exact Or.inr (Or.inr (Or.inl ⟨by omega, by omega⟩)) | (rcases hc1 with qhc1 | qhc1 | qhc1 | qhc1 <;> first | exact Or.inl ⟨by omega, by omega⟩ | exact Or.inr (Or.inl ⟨by omega, by omega⟩) | exact Or.inr (Or.inr (Or.inl ⟨by omega, by omega⟩)) | (exfalso; omega))) dX12_covers_20
