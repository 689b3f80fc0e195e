set_option maxHeartbeats 4000000 in
set_option maxRecDepth 100000 in
theorem c_X12_asBefore_a (l : Launch) (g : gG) (J : Nat → Nat → Int32) (L : Nat → Nat → Int64) (I : Nat → Nat → Nat → Int32) (P : Nat → Nat → Nat → Option Nat) (E : Nat → Option Nat) (N : Nat → Nat) (sz : Nat) (a0 : Int32) (hwm : WM J) (hp : 0 ≤ a0.toInt ∧ a0.toInt ≤ 1) (hf : -1 ≤ (J 161 a0.toNatClampNeg).toInt ∧ (J 161 a0.toNatClampNeg).toInt < (J 13 40).toInt) (hca : CAH (J 121) (J 124) (J 162) (J 163) (J 164) a0.toNatClampNeg) : Met l yX12_asBefore (WS yX12_asBefore cX12_asBefore 5 (some .int)) (RM (32) 0 0) (PC g [.ref (g.2.2.1 13), .int a0] ((J, L, I, P, E, N), sgM g) sz) (va_Qi (fun (r : Int32) (u : (Nat → Nat → Int32)) => ((J 161 a0.toNatClampNeg).toInt < 0 → r.toInt = 0) ∧ (∀ k : Nat, (J 161 a0.toNatClampNeg).toInt = (k : Int) → TVL (J 121) (J 124) k (LTR (J 154)) r) ∧ (CAH (J 121) (J 124) (u 162) (u 163) (u 164) a0.toNatClampNeg) ∧ (∀ q : Nat, q ≤ 1 → q ≠ a0.toNatClampNeg → CAH (J 121) (J 124) (J 162) (J 163) (J 164) q → CAH (J 121) (J 124) (u 162) (u 163) (u 164) q)) (fun u t => at_ g (FR g ((J, L, I, P, E, N), sgM g) sz) ((hv J [162, 163, 164] [(13, 56), (13, 57), (13, 58), (13, 59), (13, 60)] u, L, I, P, E, N), sgM g) t) (FR g ((J, L, I, P, E, N), sgM g) sz)) 0 0 (FR g ((J, L, I, P, E, N), sgM g) sz) := by
  refine ent (by decide +kernel) (Nat.le_of_ble_eq_true rfl) ?_
  intro p e s m below meth c ls hsz C hW hr hlocks hname hl
  generalize FR g ((J, L, I, P, E, N), sgM g) sz = A at C hW ⊢
  generalize hQ9 : (va_Qi (fun (r : Int32) (u : (Nat → Nat → Int32)) => ((J 161 a0.toNatClampNeg).toInt < 0 → r.toInt = 0) ∧ (∀ k : Nat, (J 161 a0.toNatClampNeg).toInt = (k : Int) → TVL (J 121) (J 124) k (LTR (J 154)) r) ∧ (CAH (J 121) (J 124) (u 162) (u 163) (u 164) a0.toNatClampNeg) ∧ (∀ q : Nat, q ≤ 1 → q ≠ a0.toNatClampNeg → CAH (J 121) (J 124) (J 162) (J 163) (J 164) q → CAH (J 121) (J 124) (u 162) (u 163) (u 164) q)) (fun u t => at_ g A ((hv J [162, 163, 164] [(13, 56), (13, 57), (13, 58), (13, 59), (13, 60)] u, L, I, P, E, N), sgM g) t) A) = Q9
  have hx := C.1.1
  have hb := C.1.2.1
  have hts := C.1.2.2.2.2
  have hW : WB g A s.heap s.heap [] (J, L, I, P, E, N) (sgM g) := hW
  have hl : lv_has ls 5 [(0, .ref (g.2.2.1 13)), (1, .int a0)] := hl
  obtain ⟨H, hH⟩ : ∃ H : Heap, H = s.heap := ⟨_, rfl⟩
  obtain ⟨locs, hlocs⟩ : ∃ q : List Loc, q = [] := ⟨_, rfl⟩
  have hW : WB g A s.heap H locs (J, L, I, P, E, N) (sgM g) := by rw [hH, hlocs]; exact hW
  obtain ⟨⟨hnd1, hnd2, hon, hhm1, hhm2, hhN, hcu1, hcu2, hco1, hco2, hcN⟩, ⟨hrd1, hrd2⟩, ⟨hnw1, hnw2, hns1, hns2, hof⟩, ⟨htm1, htm2, hts_⟩, ⟨had1, had2, hrw1, hrw2, htp1, htp2⟩⟩ := id hwm
  refine start_ hH hlocs ?_
  refine lv_aload_n hx hb dX12_asBefore_0 rfl (lv_at hl 0 rfl) ?_
  refine rg_13_61 C hW (mm_ rfl) tw_1084 dX12_asBefore_1 ?_
  refine lv_iload_n hx hb dX12_asBefore_4 rfl (lv_at hl 1 rfl) ?_
  have hin : vp_in a0 2 := tin rfl (by omega)
  refine ra_161 C hW (mm_ rfl) hin dX12_asBefore_5 ?_
  refine lv_topi (fun x1 (e1 : x1 = J 161 a0.toNatClampNeg) => ?_)
  have t1 : x1.toInt = (J 161 a0.toNatClampNeg).toInt := by rw [e1]
  refine lv_istore_n (lv' := [(2, .int x1), (0, .ref (g.2.2.1 13)), (1, .int a0)]) hx hb dX12_asBefore_6 rfl hl (by decide) rfl (fun ls hl => ?_)
  refine lv_iload_n hx hb dX12_asBefore_7 rfl (lv_at hl 0 rfl) ?_
  refine lv_if_ge (tgt := 13) hx hb dX12_asBefore_8 (by decide) (fun c2 => ?_) (fun c2 => ?_)
  · have c2 : 0 ≤ x1.toInt := tle kp0 rfl c2
    refine lv_aload_n hx hb dX12_asBefore_13 rfl (lv_at hl 1 rfl) ?_
    refine rg_13_62 C hW (mm_ rfl) tw_1085 dX12_asBefore_14 ?_
    refine lv_iload_n hx hb dX12_asBefore_17 rfl (lv_at hl 2 rfl) ?_
    have hin : vp_in a0 2 := tin rfl (by omega)
    refine ra_162 C hW (mm_ rfl) hin dX12_asBefore_18 ?_
    refine lv_topi (fun x3 (e3 : x3 = J 162 a0.toNatClampNeg) => ?_)
    have t3 : x3.toInt = (J 162 a0.toNatClampNeg).toInt := by rw [e3]
    refine lv_iload_n hx hb dX12_asBefore_19 rfl (lv_at hl 0 rfl) ?_
    refine lv_icmp_ne (tgt := 37) hx hb dX12_asBefore_20 (by decide) (fun c4 => ?_) (fun c4 => ?_)
    · have c4 : ¬ x3.toInt = x1.toInt := tne rfl rfl c4
      refine lv_iconst (v := 0) hx hb dX12_asBefore_37 (by decide) ?_
      refine lv_istore_n (lv' := [(3, .int 0), (2, .int x1), (0, .ref (g.2.2.1 13)), (1, .int a0)]) hx hb dX12_asBefore_38 rfl hl (by decide) rfl (fun ls hl => ?_)
      refine lv_iconst (v := 0) hx hb dX12_asBefore_39 (by decide) ?_
      refine lv_istore (lv' := [(4, .int 0), (3, .int 0), (2, .int x1), (0, .ref (g.2.2.1 13)), (1, .int a0)]) hx hb dX12_asBefore_40 hl (by decide) rfl (fun ls hl => ?_)
      have loop42 : ∀ (n : Nat) (m3 : Int32) (m4 : Int32) (Gl5 : Nat → Nat → Int32) (H : Heap) (locs : List Loc) (ls : Array Slot), (7 - m4.toInt).toNat < n → 0 ≤ m4.toInt ∧ m4.toInt ≤ 7 ∧ (m3.toInt = 0 ∨ m3.toInt = 1) → (m3.toInt = 1 → (J 162 a0.toNatClampNeg).toInt = x1.toInt ∧ (∀ i : Nat, (i : Int) < (J 121 x1.toNatClampNeg).toInt → ¬ (J 124 (60 * x1.toNatClampNeg + i)).toInt = 97) ∧ SML (J 164) (J 154) a0.toInt m4.toInt) → LLR (J 164) (Gl5 164) (J 154) a0.toInt m4.toInt → WB g A s.heap H locs ((hv J [164] [] Gl5), L, I, P, E, N) (sgM g) → lv_has ls 5 [(4, .int m4), (3, .int m3), (2, .int x1), (0, .ref (g.2.2.1 13)), (1, .int a0)] → W p l e (RM (32) 0 0) s m ([.ref (g.2.2.1 13), .int a0] : List Value).toArray below meth c H locs 0 0 (MQ below Q9 ([.ref (g.2.2.1 13), .int a0] : List Value).toArray s 0 0 A) (F0 m 42 ls []) := by
        intro n
        induction n with
        | zero => intro m3 m4 Gl5 H locs ls hmeas; exact absurd hmeas (Nat.not_lt_zero _)
        | succ n ih =>
          intro m3 m4 Gl5 H locs ls hmeas hi hsa hll hW hl
          refine lv_iload hx hb dX12_asBefore_42 (lv_at hl 0 rfl) ?_
          refine lv_bipush (v := 7) hx hb dX12_asBefore_44 (by decide) ?_
          refine lv_icmp_ge (tgt := 112) hx hb dX12_asBefore_46 (by decide) (fun c6 => ?_) (fun c6 => ?_)
          · have c6 : 7 ≤ m4.toInt := tle kp7 rfl c6
            refine lv_iload_n hx hb dX12_asBefore_112 rfl (lv_at hl 1 rfl) ?_
            refine lv_if_ne (tgt := 136) hx hb dX12_asBefore_113 (by decide) (fun c7 => ?_) (fun c7 => ?_)
            · have c7 : ¬ m3.toInt = 0 := tne rfl kp0 c7
              obtain ⟨hz1, hz2, hz3⟩ := hsa (by omega)
              have hTV : TVL (J 121) (J 124) x1.toNatClampNeg (LTR (J 154)) (J 163 a0.toNatClampNeg) := cah_s (y := J 154) hca (by have h8 := tcl x1; omega) hz2 (fun i hi => hz3 _ i (by have h8 := tcl a0; omega) (by omega))
              refine lv_aload_n hx hb dX12_asBefore_136 rfl (lv_at hl 3 rfl) ?_
              refine rg_13_62 C hW (mm_ rfl) tw_1085 dX12_asBefore_137 ?_
              refine lv_iload_n hx hb dX12_asBefore_140 rfl (lv_at hl 4 rfl) ?_
              refine lv_iload_n hx hb dX12_asBefore_141 rfl (lv_at hl 2 rfl) ?_
              have hin : vp_in a0 2 := tin rfl (by omega)
              refine rs_162 C hW (mm_ rfl) hin dX12_asBefore_142 (fun H locs hW => ?_)
              refine lv_aload_n hx hb dX12_asBefore_143 rfl (lv_at hl 3 rfl) ?_
              refine rg_13_63 C hW (mm_ rfl) tw_1086 dX12_asBefore_144 ?_
              refine lv_iload_n hx hb dX12_asBefore_147 rfl (lv_at hl 4 rfl) ?_
              have hin : vp_in a0 2 := tin rfl (by omega)
              refine ra_163 C hW (mm_ rfl) hin dX12_asBefore_148 ?_
              refine lv_topi (fun x8 (e8 : x8 = J 163 a0.toNatClampNeg) => ?_)
              have hTVr : TVL (J 121) (J 124) x1.toNatClampNeg (LTR (J 154)) x8 := by rw [e8]; exact hTV
              have hWr : WB g A s.heap H locs (hv J [162, 163, 164] [(13, 56), (13, 57), (13, 58), (13, 59), (13, 60)] (up2 (hv J [164] [] Gl5) 162 a0.toNatClampNeg x1), L, I, P, E, N) (sgM g) := by
                rw [← ag_hvE (J := J) (R := [162, 163, 164]) (F := [(13, 56), (13, 57), (13, 58), (13, 59), (13, 60)]) (ag_up (Or.inl rfl) (ag_hv rfl rfl ag_rf))]
                exact hW
              subst hQ9
              exact end_i C hr hlocks (up2 (hv J [164] [] Gl5) 162 a0.toNatClampNeg x1) hWr ⟨show (J 161 a0.toNatClampNeg).toInt < 0 → x8.toInt = 0 from by (intro h9; exfalso; omega), show ∀ k : Nat, (J 161 a0.toNatClampNeg).toInt = (k : Int) → TVL (J 121) (J 124) k (LTR (J 154)) x8 from by (intro k h9; have e9 : k = x1.toNatClampNeg := (by have h8 := tcl x1; omega); rw [e9]; exact hTVr), show CAH (J 121) (J 124) ((up2 J 162 a0.toNatClampNeg x1) 162) (J 163) (Gl5 164) a0.toNatClampNeg from by (exact cah_y (k := x1.toNatClampNeg) (y := J 154) (by rw [up2_s]; have h8 := tcl x1; omega) (hTV) (fun i hi => (hll _).2 i (by have h8 := tcl a0; omega) (by omega))), show ∀ q : Nat, q ≤ 1 → q ≠ a0.toNatClampNeg → CAH (J 121) (J 124) (J 162) (J 163) (J 164) q → CAH (J 121) (J 124) ((up2 J 162 a0.toNatClampNeg x1) 162) (J 163) (Gl5 164) q from by (intro q h1 h2 h3; exact cah_o h3 (up2_f _ _ _ h2) (rfl) (fun i hi => (hll _).1 (by have h8 := tcl a0; omega)))⟩ dX12_asBefore_149
            · have c7 : m3.toInt = 0 := teq rfl kp0 c7
              refine lv_aload_n hx hb dX12_asBefore_116 rfl (lv_at hl 3 rfl) ?_
              refine rg_13_63 C hW (mm_ rfl) tw_1086 dX12_asBefore_117 ?_
              refine lv_iload_n hx hb dX12_asBefore_120 rfl (lv_at hl 4 rfl) ?_
              refine lv_aload_n hx hb dX12_asBefore_121 rfl (lv_at hl 3 rfl) ?_
              refine lv_bipush (v := 60) hx hb dX12_asBefore_122 (by decide) ?_
              refine lv_iload_n hx hb dX12_asBefore_124 rfl (lv_at hl 2 rfl) ?_
              refine lv_imul hx hb dX12_asBefore_125 ?_
              refine lv_topi (fun x9 (e9 : x9 = 60 * x1) => ?_)
              try have t9 : x9.toInt = 60 * x1.toInt := tmul e9 kp60 rfl (by omega)
              refine lv_aload_n hx hb dX12_asBefore_126 rfl (lv_at hl 3 rfl) ?_
              refine rg_13_21 C hW (mm_ rfl) tw_1044 dX12_asBefore_127 ?_
              refine lv_iload_n hx hb dX12_asBefore_130 rfl (lv_at hl 2 rfl) ?_
              have hin : vp_in x1 30 := tin rfl (by omega)
              refine ra_121 C hW (mm_ rfl) hin dX12_asBefore_131 ?_
              refine lv_topi (fun x10 (e10 : x10 = J 121 x1.toNatClampNeg) => ?_)
              have q10 := hts_ x1.toNatClampNeg
              rw [← e10] at q10
              have k10 := tcl x1
              refine ci_ C hW (runV (x := (g.2.2.1 13)) (As := [.int x9, .int x10]) (rest := [.int a0, .ref (g.2.2.1 163)]) (T := (((hv J [164] [] Gl5), L, I, P, E, N), sgM g)) C hW (c_X12_goesThrough_e l g (hv J [164] [] Gl5) L I P E N H.size x9 x10 hwm (show (x9.toInt < 0 ∧ 0 ≤ x10.toInt ∧ x10.toInt ≤ 60) ∨ (0 ≤ x9.toInt ∧ 0 ≤ x10.toInt ∧ x9.toInt + x10.toInt ≤ 1800) from by omega)) mi_X12_goesThrough tw_1342 (recv_ (T := (((hv J [164] [] Gl5), L, I, P, E, N), sgM g)) C hW (mm_ rfl) rfl rfl) ⟨rfl, rfl, Nat.le_of_ble_eq_true rfl, Nat.le_of_ble_eq_true rfl⟩ rfl hl.1 rfl (Nat.le_of_ble_eq_true rfl) dX12_asBefore_132 ⟨Nat.le_of_ble_eq_true rfl, Nat.le_of_ble_eq_true rfl⟩) (fun r11 u11 H locs hp11 hW => ?_)
              obtain ⟨hf11_0, hf11_1⟩ : ((¬ (u11 13 60).toInt = 0 ∧ ∃ c, PT (NX (RBY x9 (J 153) (J 124)) x10) 0 5 0 (u11 13 56).toInt.toNat c ∧ VAL (LTR (J 154)) c r11) ∨ ((u11 13 60).toInt = 0 ∧ PF (NX (RBY x9 (J 153) (J 124)) x10) 0 5 0 (u11 13 56).toInt.toNat)) ∧ (0 ≤ (u11 13 56).toInt) := hp11
              have hW : WB g A s.heap H locs ((hv (hv J [164] [] Gl5) [] [(13, 56), (13, 57), (13, 58), (13, 59), (13, 60)] u11), L, I, P, E, N) (sgM g) := hW
              have hGT := hf11_0
              have hin : vp_in a0 2 := tin rfl (by omega)
              refine rs_163 C hW (mm_ rfl) hin dX12_asBefore_135 (fun H locs hW => ?_)
              have hTV : TVL (J 121) (J 124) x1.toNatClampNeg (LTR (J 154)) r11 := tvl_k (by have h8 := tcl x1; omega) e10 hGT
              refine lv_aload_n hx hb dX12_asBefore_136 rfl (lv_at hl 3 rfl) ?_
              refine rg_13_62 C hW (mm_ rfl) tw_1085 dX12_asBefore_137 ?_
              refine lv_iload_n hx hb dX12_asBefore_140 rfl (lv_at hl 4 rfl) ?_
              refine lv_iload_n hx hb dX12_asBefore_141 rfl (lv_at hl 2 rfl) ?_
              have hin : vp_in a0 2 := tin rfl (by omega)
              refine rs_162 C hW (mm_ rfl) hin dX12_asBefore_142 (fun H locs hW => ?_)
              refine lv_aload_n hx hb dX12_asBefore_143 rfl (lv_at hl 3 rfl) ?_
              refine rg_13_63 C hW (mm_ rfl) tw_1086 dX12_asBefore_144 ?_
              refine lv_iload_n hx hb dX12_asBefore_147 rfl (lv_at hl 4 rfl) ?_
              have hin : vp_in a0 2 := tin rfl (by omega)
              refine ra_163 C hW (mm_ rfl) hin dX12_asBefore_148 ?_
              refine lv_topi (fun x12 (e12 : x12 = (up2 J 163 a0.toNatClampNeg r11) 163 a0.toNatClampNeg) => ?_)
              have hTVr : TVL (J 121) (J 124) x1.toNatClampNeg (LTR (J 154)) x12 := by rw [e12, up2_s]; exact hTV
              have hWr : WB g A s.heap H locs (hv J [162, 163, 164] [(13, 56), (13, 57), (13, 58), (13, 59), (13, 60)] (up2 (up2 (hv (hv J [164] [] Gl5) [] [(13, 56), (13, 57), (13, 58), (13, 59), (13, 60)] u11) 163 a0.toNatClampNeg r11) 162 a0.toNatClampNeg x1), L, I, P, E, N) (sgM g) := by
                rw [← ag_hvE (J := J) (R := [162, 163, 164]) (F := [(13, 56), (13, 57), (13, 58), (13, 59), (13, 60)]) (ag_up (Or.inl rfl) (ag_up (Or.inl rfl) (ag_hv rfl rfl (ag_hv rfl rfl ag_rf))))]
                exact hW
              subst hQ9
              exact end_i C hr hlocks (up2 (up2 (hv (hv J [164] [] Gl5) [] [(13, 56), (13, 57), (13, 58), (13, 59), (13, 60)] u11) 163 a0.toNatClampNeg r11) 162 a0.toNatClampNeg x1) hWr ⟨show (J 161 a0.toNatClampNeg).toInt < 0 → x12.toInt = 0 from by (intro h9; exfalso; omega), show ∀ k : Nat, (J 161 a0.toNatClampNeg).toInt = (k : Int) → TVL (J 121) (J 124) k (LTR (J 154)) x12 from by (intro k h9; have e9 : k = x1.toNatClampNeg := (by have h8 := tcl x1; omega); rw [e9]; exact hTVr), show CAH (J 121) (J 124) ((up2 J 162 a0.toNatClampNeg x1) 162) ((up2 J 163 a0.toNatClampNeg r11) 163) (Gl5 164) a0.toNatClampNeg from by (exact cah_y (k := x1.toNatClampNeg) (y := J 154) (by rw [up2_s]; have h8 := tcl x1; omega) (by rw [up2_s]; exact hTV) (fun i hi => (hll _).2 i (by have h8 := tcl a0; omega) (by omega))), show ∀ q : Nat, q ≤ 1 → q ≠ a0.toNatClampNeg → CAH (J 121) (J 124) (J 162) (J 163) (J 164) q → CAH (J 121) (J 124) ((up2 J 162 a0.toNatClampNeg x1) 162) ((up2 J 163 a0.toNatClampNeg r11) 163) (Gl5 164) q from by (intro q h1 h2 h3; exact cah_o h3 (up2_f _ _ _ h2) (up2_f _ _ _ h2) (fun i hi => (hll _).1 (by have h8 := tcl a0; omega)))⟩ dX12_asBefore_149
          · have c6 : m4.toInt < 7 := tnle kp7 rfl c6
            refine lv_iload_n hx hb dX12_asBefore_49 rfl (lv_at hl 1 rfl) ?_
            refine lv_if_eq (tgt := 82) hx hb dX12_asBefore_50 (by decide) (fun c13 => ?_) (fun c13 => ?_)
            · have c13 : m3.toInt = 0 := teq rfl kp0 c13
              refine lv_iconst (v := 0) hx hb dX12_asBefore_82 (by decide) ?_
              refine lv_istore_n (lv' := [(3, .int 0), (4, .int m4), (2, .int x1), (0, .ref (g.2.2.1 13)), (1, .int a0)]) hx hb dX12_asBefore_83 rfl hl (by decide) rfl (fun ls hl => ?_)
              refine lv_aload_n hx hb dX12_asBefore_84 rfl (lv_at hl 3 rfl) ?_
              refine rg_13_64 C hW (mm_ rfl) tw_1087 dX12_asBefore_85 ?_
              refine lv_bipush (v := 7) hx hb dX12_asBefore_88 (by decide) ?_
              refine lv_iload_n hx hb dX12_asBefore_90 rfl (lv_at hl 4 rfl) ?_
              refine lv_imul hx hb dX12_asBefore_91 ?_
              refine lv_topi (fun x14 (e14 : x14 = 7 * a0) => ?_)
              try have t14 : x14.toInt = 7 * a0.toInt := tmul e14 kp7 rfl (by omega)
              refine lv_iload hx hb dX12_asBefore_92 (lv_at hl 1 rfl) ?_
              refine lv_iadd hx hb dX12_asBefore_94 ?_
              refine lv_topi (fun x15 (e15 : x15 = x14 + m4) => ?_)
              try have t15 : x15.toInt = x14.toInt + m4.toInt := tadd e15 rfl rfl (by omega)
              refine lv_aload_n hx hb dX12_asBefore_95 rfl (lv_at hl 3 rfl) ?_
              refine rg_13_54 C hW (mm_ rfl) tw_1077 dX12_asBefore_96 ?_
              refine lv_iload hx hb dX12_asBefore_99 (lv_at hl 1 rfl) ?_
              refine ci_ C hW (runS (As := [.int m4]) (rest := [.ref (g.2.2.1 154), .int x15, .ref (g.2.2.1 164)]) (T := (((hv J [164] [] Gl5), L, I, P, E, N), sgM g)) C hW (c_X12_letterOf_a l g (hv J [164] [] Gl5) L I P E N H.size m4 ) mi_X12_letterOf tw_1449 ⟨rfl, rfl, Nat.le_of_ble_eq_true rfl, Nat.le_of_ble_eq_true rfl⟩ rfl hl.1 rfl (Nat.le_of_ble_eq_true rfl) dX12_asBefore_101 ⟨Nat.le_of_ble_eq_true rfl, Nat.le_of_ble_eq_true rfl⟩) (fun r16 u16 H locs hp16 hW => ?_)
              obtain ⟨hf16_0, hf16_1⟩ : (0 ≤ r16.toInt ∧ r16.toInt < 128) ∧ ((m4.toInt = 0 → r16.toInt = 107) ∧ (m4.toInt = 1 → r16.toInt = 104) ∧ (m4.toInt = 2 → r16.toInt = 118) ∧ (m4.toInt = 3 → r16.toInt = 115) ∧ (m4.toInt = 4 → r16.toInt = 109) ∧ (m4.toInt = 5 → r16.toInt = 119) ∧ (6 ≤ m4.toInt → r16.toInt = 110)) := hp16
              have hW : WB g A s.heap H locs ((hv J [164] [] Gl5), L, I, P, E, N) (sgM g) := hW
              have hLO2 := hid_i hf16_1
              clear hf16_1
              have hin : vp_in r16 128 := tin rfl (by omega)
              refine ra_154 C hW (mm_ rfl) hin dX12_asBefore_104 ?_
              refine lv_topi (fun x17 (e17 : x17 = J 154 r16.toNatClampNeg) => ?_)
              have t17 : x17.toInt = (J 154 r16.toNatClampNeg).toInt := by rw [e17]
              have hin : vp_in x15 14 := tin rfl (by omega)
              refine rs_164 C hW (mm_ rfl) hin dX12_asBefore_105 (fun H locs hW => ?_)
              obtain ⟨x18, e18⟩ : ∃ y : Int32, y = m4 + 1 := ⟨_, rfl⟩
              refine lv_iinc (v := x18) (lv' := [(4, .int x18), (3, .int 0), (2, .int x1), (0, .ref (g.2.2.1 13)), (1, .int a0)]) hx hb dX12_asBefore_106 hl (k := 1) rfl (by rw [e18]; rfl) (by decide) rfl (fun ls hl => ?_)
              try have t18 : x18.toInt = m4.toInt + 1 := tadd e18 rfl kp1 (by omega)
              refine lv_goto (tgt := 42) hx hb dX12_asBefore_109 (by decide) ?_
              have hWl : WB g A s.heap H locs ((hv J [164] [] (up2 (hv J [164] [] Gl5) 164 x15.toNatClampNeg x17)), L, I, P, E, N) (sgM g) := by
                rw [← ag_hvE (J := J) (R := [164]) (F := []) (ag_up (Or.inl rfl) (ag_hv rfl rfl ag_rf))]
                exact hW
              refine ih 0 x18 (up2 (hv J [164] [] Gl5) 164 x15.toNatClampNeg x17) H locs ls ?_ ?_ ?_ ?_ hWl (lv_sub hl [0, 1, 2, 3, 4] rfl)
              · show (7 - x18.toInt).toNat < n
                omega
              · show 0 ≤ x18.toInt ∧ x18.toInt ≤ 7 ∧ ((0 : Int32).toInt = 0 ∨ (0 : Int32).toInt = 1)
                first | exact ⟨by omega, by omega, Or.inr kp1⟩ | exact ⟨by omega, by omega, Or.inl kp0⟩
              · show (0 : Int32).toInt = 1 → (J 162 a0.toNatClampNeg).toInt = x1.toInt ∧ (∀ i : Nat, (i : Int) < (J 121 x1.toNatClampNeg).toInt → ¬ (J 124 (60 * x1.toNatClampNeg + i)).toInt = 97) ∧ SML (J 164) (J 154) a0.toInt x18.toInt
                (intro h9; exfalso; exact absurd h9 (by decide))
              · show LLR (J 164) ((up2 Gl5 164 x15.toNatClampNeg x17) 164) (J 154) a0.toInt x18.toInt
                exact llr_s hll rfl (u := x15) (by omega) (by omega) (by omega) (by omega) (e17.trans (congrArg (J 154) (li_of (hid_o hLO2) (by omega))))
            · have c13 : ¬ m3.toInt = 0 := tne rfl kp0 c13
              refine lv_aload_n hx hb dX12_asBefore_53 rfl (lv_at hl 3 rfl) ?_
              refine rg_13_64 C hW (mm_ rfl) tw_1087 dX12_asBefore_54 ?_
              refine lv_bipush (v := 7) hx hb dX12_asBefore_57 (by decide) ?_
              refine lv_iload_n hx hb dX12_asBefore_59 rfl (lv_at hl 4 rfl) ?_
              refine lv_imul hx hb dX12_asBefore_60 ?_
              refine lv_topi (fun x19 (e19 : x19 = 7 * a0) => ?_)
              try have t19 : x19.toInt = 7 * a0.toInt := tmul e19 kp7 rfl (by omega)
              refine lv_iload hx hb dX12_asBefore_61 (lv_at hl 0 rfl) ?_
              refine lv_iadd hx hb dX12_asBefore_63 ?_
              refine lv_topi (fun x20 (e20 : x20 = x19 + m4) => ?_)
              try have t20 : x20.toInt = x19.toInt + m4.toInt := tadd e20 rfl rfl (by omega)
              have hin : vp_in x20 14 := tin rfl (by omega)
              refine ra_164 C hW (mm_ rfl) hin dX12_asBefore_64 ?_
              refine lv_topi (fun x21 (e21 : x21 = Gl5 164 x20.toNatClampNeg) => ?_)
              have t21 : x21.toInt = (Gl5 164 x20.toNatClampNeg).toInt := by rw [e21]
              refine lv_aload_n hx hb dX12_asBefore_65 rfl (lv_at hl 3 rfl) ?_
              refine rg_13_54 C hW (mm_ rfl) tw_1077 dX12_asBefore_66 ?_
              refine lv_iload hx hb dX12_asBefore_69 (lv_at hl 0 rfl) ?_
              refine ci_ C hW (runS (As := [.int m4]) (rest := [.ref (g.2.2.1 154), .int x21]) (T := (((hv J [164] [] Gl5), L, I, P, E, N), sgM g)) C hW (c_X12_letterOf_a l g (hv J [164] [] Gl5) L I P E N H.size m4 ) mi_X12_letterOf tw_1449 ⟨rfl, rfl, Nat.le_of_ble_eq_true rfl, Nat.le_of_ble_eq_true rfl⟩ rfl hl.1 rfl (Nat.le_of_ble_eq_true rfl) dX12_asBefore_71 ⟨Nat.le_of_ble_eq_true rfl, Nat.le_of_ble_eq_true rfl⟩) (fun r22 u22 H locs hp22 hW => ?_)
              obtain ⟨hf22_0, hf22_1⟩ : (0 ≤ r22.toInt ∧ r22.toInt < 128) ∧ ((m4.toInt = 0 → r22.toInt = 107) ∧ (m4.toInt = 1 → r22.toInt = 104) ∧ (m4.toInt = 2 → r22.toInt = 118) ∧ (m4.toInt = 3 → r22.toInt = 115) ∧ (m4.toInt = 4 → r22.toInt = 109) ∧ (m4.toInt = 5 → r22.toInt = 119) ∧ (6 ≤ m4.toInt → r22.toInt = 110)) := hp22
              have hW : WB g A s.heap H locs ((hv J [164] [] Gl5), L, I, P, E, N) (sgM g) := hW
              have hLO := hid_i hf22_1
              clear hf22_1
              have hin : vp_in r22 128 := tin rfl (by omega)
              refine ra_154 C hW (mm_ rfl) hin dX12_asBefore_74 ?_
              refine lv_topi (fun x23 (e23 : x23 = J 154 r22.toNatClampNeg) => ?_)
              have t23 : x23.toInt = (J 154 r22.toNatClampNeg).toInt := by rw [e23]
              refine lv_icmp_ne (tgt := 82) hx hb dX12_asBefore_75 (by decide) (fun c24 => ?_) (fun c24 => ?_)
              · have c24 : ¬ x21.toInt = x23.toInt := tne rfl rfl c24
                refine lv_iconst (v := 0) hx hb dX12_asBefore_82 (by decide) ?_
                refine lv_istore_n (lv' := [(3, .int 0), (4, .int m4), (2, .int x1), (0, .ref (g.2.2.1 13)), (1, .int a0)]) hx hb dX12_asBefore_83 rfl hl (by decide) rfl (fun ls hl => ?_)
                refine lv_aload_n hx hb dX12_asBefore_84 rfl (lv_at hl 3 rfl) ?_
                refine rg_13_64 C hW (mm_ rfl) tw_1087 dX12_asBefore_85 ?_
                refine lv_bipush (v := 7) hx hb dX12_asBefore_88 (by decide) ?_
                refine lv_iload_n hx hb dX12_asBefore_90 rfl (lv_at hl 4 rfl) ?_
                refine lv_imul hx hb dX12_asBefore_91 ?_
                refine lv_topi (fun x25 (e25 : x25 = 7 * a0) => ?_)
                try have t25 : x25.toInt = 7 * a0.toInt := tmul e25 kp7 rfl (by omega)
                refine lv_iload hx hb dX12_asBefore_92 (lv_at hl 1 rfl) ?_
                refine lv_iadd hx hb dX12_asBefore_94 ?_
                refine lv_topi (fun x26 (e26 : x26 = x25 + m4) => ?_)
                try have t26 : x26.toInt = x25.toInt + m4.toInt := tadd e26 rfl rfl (by omega)
                refine lv_aload_n hx hb dX12_asBefore_95 rfl (lv_at hl 3 rfl) ?_
                refine rg_13_54 C hW (mm_ rfl) tw_1077 dX12_asBefore_96 ?_
                refine lv_iload hx hb dX12_asBefore_99 (lv_at hl 1 rfl) ?_
                refine ci_ C hW (runS (As := [.int m4]) (rest := [.ref (g.2.2.1 154), .int x26, .ref (g.2.2.1 164)]) (T := (((hv J [164] [] Gl5), L, I, P, E, N), sgM g)) C hW (c_X12_letterOf_a l g (hv J [164] [] Gl5) L I P E N H.size m4 ) mi_X12_letterOf tw_1449 ⟨rfl, rfl, Nat.le_of_ble_eq_true rfl, Nat.le_of_ble_eq_true rfl⟩ rfl hl.1 rfl (Nat.le_of_ble_eq_true rfl) dX12_asBefore_101 ⟨Nat.le_of_ble_eq_true rfl, Nat.le_of_ble_eq_true rfl⟩) (fun r27 u27 H locs hp27 hW => ?_)
                obtain ⟨hf27_0, hf27_1⟩ : (0 ≤ r27.toInt ∧ r27.toInt < 128) ∧ ((m4.toInt = 0 → r27.toInt = 107) ∧ (m4.toInt = 1 → r27.toInt = 104) ∧ (m4.toInt = 2 → r27.toInt = 118) ∧ (m4.toInt = 3 → r27.toInt = 115) ∧ (m4.toInt = 4 → r27.toInt = 109) ∧ (m4.toInt = 5 → r27.toInt = 119) ∧ (6 ≤ m4.toInt → r27.toInt = 110)) := hp27
                have hW : WB g A s.heap H locs ((hv J [164] [] Gl5), L, I, P, E, N) (sgM g) := hW
                have hLO2 := hid_i hf27_1
                clear hf27_1
                have hin : vp_in r27 128 := tin rfl (by omega)
                refine ra_154 C hW (mm_ rfl) hin dX12_asBefore_104 ?_
                refine lv_topi (fun x28 (e28 : x28 = J 154 r27.toNatClampNeg) => ?_)
                have t28 : x28.toInt = (J 154 r27.toNatClampNeg).toInt := by rw [e28]
                have hin : vp_in x26 14 := tin rfl (by omega)
                refine rs_164 C hW (mm_ rfl) hin dX12_asBefore_105 (fun H locs hW => ?_)
                obtain ⟨x29, e29⟩ : ∃ y : Int32, y = m4 + 1 := ⟨_, rfl⟩
                refine lv_iinc (v := x29) (lv' := [(4, .int x29), (3, .int 0), (2, .int x1), (0, .ref (g.2.2.1 13)), (1, .int a0)]) hx hb dX12_asBefore_106 hl (k := 1) rfl (by rw [e29]; rfl) (by decide) rfl (fun ls hl => ?_)
                try have t29 : x29.toInt = m4.toInt + 1 := tadd e29 rfl kp1 (by omega)
                refine lv_goto (tgt := 42) hx hb dX12_asBefore_109 (by decide) ?_
                have hWl : WB g A s.heap H locs ((hv J [164] [] (up2 (hv J [164] [] Gl5) 164 x26.toNatClampNeg x28)), L, I, P, E, N) (sgM g) := by
                  rw [← ag_hvE (J := J) (R := [164]) (F := []) (ag_up (Or.inl rfl) (ag_hv rfl rfl ag_rf))]
                  exact hW
                refine ih 0 x29 (up2 (hv J [164] [] Gl5) 164 x26.toNatClampNeg x28) H locs ls ?_ ?_ ?_ ?_ hWl (lv_sub hl [0, 1, 2, 3, 4] rfl)
                · show (7 - x29.toInt).toNat < n
                  omega
                · show 0 ≤ x29.toInt ∧ x29.toInt ≤ 7 ∧ ((0 : Int32).toInt = 0 ∨ (0 : Int32).toInt = 1)
                  first | exact ⟨by omega, by omega, Or.inr kp1⟩ | exact ⟨by omega, by omega, Or.inl kp0⟩
                · show (0 : Int32).toInt = 1 → (J 162 a0.toNatClampNeg).toInt = x1.toInt ∧ (∀ i : Nat, (i : Int) < (J 121 x1.toNatClampNeg).toInt → ¬ (J 124 (60 * x1.toNatClampNeg + i)).toInt = 97) ∧ SML (J 164) (J 154) a0.toInt x29.toInt
                  (intro h9; exfalso; exact absurd h9 (by decide))
                · show LLR (J 164) ((up2 Gl5 164 x26.toNatClampNeg x28) 164) (J 154) a0.toInt x29.toInt
                  exact llr_s hll rfl (u := x26) (by omega) (by omega) (by omega) (by omega) (e28.trans (congrArg (J 154) (li_of (hid_o hLO2) (by omega))))
              · have c24 : x21.toInt = x23.toInt := teq rfl rfl c24
                refine lv_iconst (v := 1) hx hb dX12_asBefore_78 (by decide) ?_
                refine lv_goto (tgt := 83) hx hb dX12_asBefore_79 (by decide) ?_
                refine lv_istore_n (lv' := [(3, .int 1), (4, .int m4), (2, .int x1), (0, .ref (g.2.2.1 13)), (1, .int a0)]) hx hb dX12_asBefore_83 rfl hl (by decide) rfl (fun ls hl => ?_)
                refine lv_aload_n hx hb dX12_asBefore_84 rfl (lv_at hl 3 rfl) ?_
                refine rg_13_64 C hW (mm_ rfl) tw_1087 dX12_asBefore_85 ?_
                refine lv_bipush (v := 7) hx hb dX12_asBefore_88 (by decide) ?_
                refine lv_iload_n hx hb dX12_asBefore_90 rfl (lv_at hl 4 rfl) ?_
                refine lv_imul hx hb dX12_asBefore_91 ?_
                refine lv_topi (fun x30 (e30 : x30 = 7 * a0) => ?_)
                try have t30 : x30.toInt = 7 * a0.toInt := tmul e30 kp7 rfl (by omega)
                refine lv_iload hx hb dX12_asBefore_92 (lv_at hl 1 rfl) ?_
                refine lv_iadd hx hb dX12_asBefore_94 ?_
                refine lv_topi (fun x31 (e31 : x31 = x30 + m4) => ?_)
                try have t31 : x31.toInt = x30.toInt + m4.toInt := tadd e31 rfl rfl (by omega)
                refine lv_aload_n hx hb dX12_asBefore_95 rfl (lv_at hl 3 rfl) ?_
                refine rg_13_54 C hW (mm_ rfl) tw_1077 dX12_asBefore_96 ?_
                refine lv_iload hx hb dX12_asBefore_99 (lv_at hl 1 rfl) ?_
                refine ci_ C hW (runS (As := [.int m4]) (rest := [.ref (g.2.2.1 154), .int x31, .ref (g.2.2.1 164)]) (T := (((hv J [164] [] Gl5), L, I, P, E, N), sgM g)) C hW (c_X12_letterOf_a l g (hv J [164] [] Gl5) L I P E N H.size m4 ) mi_X12_letterOf tw_1449 ⟨rfl, rfl, Nat.le_of_ble_eq_true rfl, Nat.le_of_ble_eq_true rfl⟩ rfl hl.1 rfl (Nat.le_of_ble_eq_true rfl) dX12_asBefore_101 ⟨Nat.le_of_ble_eq_true rfl, Nat.le_of_ble_eq_true rfl⟩) (fun r32 u32 H locs hp32 hW => ?_)
                obtain ⟨hf32_0, hf32_1⟩ : (0 ≤ r32.toInt ∧ r32.toInt < 128) ∧ ((m4.toInt = 0 → r32.toInt = 107) ∧ (m4.toInt = 1 → r32.toInt = 104) ∧ (m4.toInt = 2 → r32.toInt = 118) ∧ (m4.toInt = 3 → r32.toInt = 115) ∧ (m4.toInt = 4 → r32.toInt = 109) ∧ (m4.toInt = 5 → r32.toInt = 119) ∧ (6 ≤ m4.toInt → r32.toInt = 110)) := hp32
                have hW : WB g A s.heap H locs ((hv J [164] [] Gl5), L, I, P, E, N) (sgM g) := hW
                have hLO2 := hid_i hf32_1
                clear hf32_1
                have hin : vp_in r32 128 := tin rfl (by omega)
                refine ra_154 C hW (mm_ rfl) hin dX12_asBefore_104 ?_
                refine lv_topi (fun x33 (e33 : x33 = J 154 r32.toNatClampNeg) => ?_)
                have t33 : x33.toInt = (J 154 r32.toNatClampNeg).toInt := by rw [e33]
                have hin : vp_in x31 14 := tin rfl (by omega)
                refine rs_164 C hW (mm_ rfl) hin dX12_asBefore_105 (fun H locs hW => ?_)
                obtain ⟨x34, e34⟩ : ∃ y : Int32, y = m4 + 1 := ⟨_, rfl⟩
                refine lv_iinc (v := x34) (lv' := [(4, .int x34), (3, .int 1), (2, .int x1), (0, .ref (g.2.2.1 13)), (1, .int a0)]) hx hb dX12_asBefore_106 hl (k := 1) rfl (by rw [e34]; rfl) (by decide) rfl (fun ls hl => ?_)
                try have t34 : x34.toInt = m4.toInt + 1 := tadd e34 rfl kp1 (by omega)
                refine lv_goto (tgt := 42) hx hb dX12_asBefore_109 (by decide) ?_
                have hWl : WB g A s.heap H locs ((hv J [164] [] (up2 (hv J [164] [] Gl5) 164 x31.toNatClampNeg x33)), L, I, P, E, N) (sgM g) := by
                  rw [← ag_hvE (J := J) (R := [164]) (F := []) (ag_up (Or.inl rfl) (ag_hv rfl rfl ag_rf))]
                  exact hW
                refine ih 1 x34 (up2 (hv J [164] [] Gl5) 164 x31.toNatClampNeg x33) H locs ls ?_ ?_ ?_ ?_ hWl (lv_sub hl [0, 1, 2, 3, 4] rfl)
                · show (7 - x34.toInt).toNat < n
                  omega
                · show 0 ≤ x34.toInt ∧ x34.toInt ≤ 7 ∧ ((1 : Int32).toInt = 0 ∨ (1 : Int32).toInt = 1)
                  first | exact ⟨by omega, by omega, Or.inr kp1⟩ | exact ⟨by omega, by omega, Or.inl kp0⟩
                · show (1 : Int32).toInt = 1 → (J 162 a0.toNatClampNeg).toInt = x1.toInt ∧ (∀ i : Nat, (i : Int) < (J 121 x1.toNatClampNeg).toInt → ¬ (J 124 (60 * x1.toNatClampNeg + i)).toInt = 97) ∧ SML (J 164) (J 154) a0.toInt x34.toInt
                  (intro h9; obtain ⟨y1, y2, y3⟩ := hsa (by omega); exact ⟨y1, y2, sml_s y3 hll (u := x20) (by omega) (by omega) (by omega) (by omega) (li_of (hid_o hLO) (by omega)) (by rw [← e21, ← e23]; omega)⟩)
                · show LLR (J 164) ((up2 Gl5 164 x31.toNatClampNeg x33) 164) (J 154) a0.toInt x34.toInt
                  exact llr_s hll rfl (u := x31) (by omega) (by omega) (by omega) (by omega) (e33.trans (congrArg (J 154) (li_of (hid_o hLO2) (by omega))))
      -- into the loop
      have hWl : WB g A s.heap H locs ((hv J [164] [] J), L, I, P, E, N) (sgM g) := by
        rw [← ag_hvE (J := J) (R := [164]) (F := []) ag_rf]
        exact hW
      refine loop42 ((7 - (0 : Int32).toInt).toNat + 1) 0 0 J H locs ls ?_ ?_ ?_ ?_ hWl (lv_sub hl [0, 1, 2, 3, 4] rfl)
      · exact Nat.lt_succ_self _
      · show 0 ≤ (0 : Int32).toInt ∧ (0 : Int32).toInt ≤ 7 ∧ ((0 : Int32).toInt = 0 ∨ (0 : Int32).toInt = 1)
        try rw [kp0]
        try rw [kp0]
        first | omega | exact ⟨by omega, by omega, Or.inr rfl⟩ | exact ⟨by omega, by omega, Or.inl rfl⟩
      · show (0 : Int32).toInt = 1 → (J 162 a0.toNatClampNeg).toInt = x1.toInt ∧ (∀ i : Nat, (i : Int) < (J 121 x1.toNatClampNeg).toInt → ¬ (J 124 (60 * x1.toNatClampNeg + i)).toInt = 97) ∧ SML (J 164) (J 154) a0.toInt (0 : Int32).toInt
        try rw [kp0]
        try rw [kp0]
        first | (intro h9; exact absurd h9 (by decide)) | (intro h9; exfalso; omega) | exact fun _ => ⟨by omega, hHA.elim (fun q => absurd q (by omega)) (fun q => q.2), fun q j h1 h2 => by omega⟩
      · show LLR (J 164) (J 164) (J 154) a0.toInt (0 : Int32).toInt
        try rw [kp0]
        try rw [kp0]
        exact llr_0 (by first | rfl | exact kp0)
    · have c4 : x3.toInt = x1.toInt := teq rfl rfl c4
      refine lv_aload_n hx hb dX12_asBefore_23 rfl (lv_at hl 1 rfl) ?_
      refine lv_iload_n hx hb dX12_asBefore_24 rfl (lv_at hl 0 rfl) ?_
      refine lv_bipush (v := 97) hx hb dX12_asBefore_25 (by decide) ?_
      refine ci_ C hW (runV (x := (g.2.2.1 13)) (As := [.int x1, .int 97]) (rest := []) (T := ((J, L, I, P, E, N), sgM g)) C hW (c_X12_has_a l g J L I P E N H.size x1 97 hwm (show 0 ≤ x1.toInt ∧ x1.toInt < (J 13 40).toInt from by (try simp only [kp97]); omega)) mi_X12_has tw_1445 (recv_ (T := ((J, L, I, P, E, N), sgM g)) C hW (mm_ rfl) rfl rfl) ⟨rfl, rfl, Nat.le_of_ble_eq_true rfl, Nat.le_of_ble_eq_true rfl⟩ rfl hl.1 rfl (Nat.le_of_ble_eq_true rfl) dX12_asBefore_27 ⟨Nat.le_of_ble_eq_true rfl, Nat.le_of_ble_eq_true rfl⟩) (fun r35 u35 H locs hp35 hW => ?_)
      have hc35 : ((r35.toInt = 1) ∨ (r35.toInt = 0 ∧ (∀ i : Nat, (i : Int) < (J 121 x1.toNatClampNeg).toInt → ¬ (J 124 (60 * x1.toNatClampNeg + i)).toInt = 97))) := hp35
      clear hp35
      have hW : WB g A s.heap H locs (J, L, I, P, E, N) (sgM g) := hW
      have hHA := hc35
      refine lv_if_ne (tgt := 37) hx hb dX12_asBefore_30 (by decide) (fun c36 => ?_) (fun c36 => ?_)
      · have c36 : ¬ r35.toInt = 0 := tne rfl kp0 c36
        refine lv_iconst (v := 0) hx hb dX12_asBefore_37 (by decide) ?_
        refine lv_istore_n (lv' := [(3, .int 0), (2, .int x1), (0, .ref (g.2.2.1 13)), (1, .int a0)]) hx hb dX12_asBefore_38 rfl hl (by decide) rfl (fun ls hl => ?_)
        refine lv_iconst (v := 0) hx hb dX12_asBefore_39 (by decide) ?_
        refine lv_istore (lv' := [(4, .int 0), (3, .int 0), (2, .int x1), (0, .ref (g.2.2.1 13)), (1, .int a0)]) hx hb dX12_asBefore_40 hl (by decide) rfl (fun ls hl => ?_)
        have loop42 : ∀ (n : Nat) (m3 : Int32) (m4 : Int32) (Gl37 : Nat → Nat → Int32) (H : Heap) (locs : List Loc) (ls : Array Slot), (7 - m4.toInt).toNat < n → 0 ≤ m4.toInt ∧ m4.toInt ≤ 7 ∧ (m3.toInt = 0 ∨ m3.toInt = 1) → (m3.toInt = 1 → (J 162 a0.toNatClampNeg).toInt = x1.toInt ∧ (∀ i : Nat, (i : Int) < (J 121 x1.toNatClampNeg).toInt → ¬ (J 124 (60 * x1.toNatClampNeg + i)).toInt = 97) ∧ SML (J 164) (J 154) a0.toInt m4.toInt) → LLR (J 164) (Gl37 164) (J 154) a0.toInt m4.toInt → WB g A s.heap H locs ((hv J [164] [] Gl37), L, I, P, E, N) (sgM g) → lv_has ls 5 [(4, .int m4), (3, .int m3), (2, .int x1), (0, .ref (g.2.2.1 13)), (1, .int a0)] → W p l e (RM (32) 0 0) s m ([.ref (g.2.2.1 13), .int a0] : List Value).toArray below meth c H locs 0 0 (MQ below Q9 ([.ref (g.2.2.1 13), .int a0] : List Value).toArray s 0 0 A) (F0 m 42 ls []) := by
          intro n
          induction n with
          | zero => intro m3 m4 Gl37 H locs ls hmeas; exact absurd hmeas (Nat.not_lt_zero _)
          | succ n ih =>
            intro m3 m4 Gl37 H locs ls hmeas hi hsa hll hW hl
            refine lv_iload hx hb dX12_asBefore_42 (lv_at hl 0 rfl) ?_
            refine lv_bipush (v := 7) hx hb dX12_asBefore_44 (by decide) ?_
            refine lv_icmp_ge (tgt := 112) hx hb dX12_asBefore_46 (by decide) (fun c38 => ?_) (fun c38 => ?_)
            · have c38 : 7 ≤ m4.toInt := tle kp7 rfl c38
              refine lv_iload_n hx hb dX12_asBefore_112 rfl (lv_at hl 1 rfl) ?_
              refine lv_if_ne (tgt := 136) hx hb dX12_asBefore_113 (by decide) (fun c39 => ?_) (fun c39 => ?_)
              · have c39 : ¬ m3.toInt = 0 := tne rfl kp0 c39
                obtain ⟨hz1, hz2, hz3⟩ := hsa (by omega)
                have hTV : TVL (J 121) (J 124) x1.toNatClampNeg (LTR (J 154)) (J 163 a0.toNatClampNeg) := cah_s (y := J 154) hca (by have h8 := tcl x1; omega) hz2 (fun i hi => hz3 _ i (by have h8 := tcl a0; omega) (by omega))
                refine lv_aload_n hx hb dX12_asBefore_136 rfl (lv_at hl 3 rfl) ?_
                refine rg_13_62 C hW (mm_ rfl) tw_1085 dX12_asBefore_137 ?_
                refine lv_iload_n hx hb dX12_asBefore_140 rfl (lv_at hl 4 rfl) ?_
                refine lv_iload_n hx hb dX12_asBefore_141 rfl (lv_at hl 2 rfl) ?_
                have hin : vp_in a0 2 := tin rfl (by omega)
                refine rs_162 C hW (mm_ rfl) hin dX12_asBefore_142 (fun H locs hW => ?_)
                refine lv_aload_n hx hb dX12_asBefore_143 rfl (lv_at hl 3 rfl) ?_
                refine rg_13_63 C hW (mm_ rfl) tw_1086 dX12_asBefore_144 ?_
                refine lv_iload_n hx hb dX12_asBefore_147 rfl (lv_at hl 4 rfl) ?_
                have hin : vp_in a0 2 := tin rfl (by omega)
                refine ra_163 C hW (mm_ rfl) hin dX12_asBefore_148 ?_
                refine lv_topi (fun x40 (e40 : x40 = J 163 a0.toNatClampNeg) => ?_)
                have hTVr : TVL (J 121) (J 124) x1.toNatClampNeg (LTR (J 154)) x40 := by rw [e40]; exact hTV
                have hWr : WB g A s.heap H locs (hv J [162, 163, 164] [(13, 56), (13, 57), (13, 58), (13, 59), (13, 60)] (up2 (hv J [164] [] Gl37) 162 a0.toNatClampNeg x1), L, I, P, E, N) (sgM g) := by
                  rw [← ag_hvE (J := J) (R := [162, 163, 164]) (F := [(13, 56), (13, 57), (13, 58), (13, 59), (13, 60)]) (ag_up (Or.inl rfl) (ag_hv rfl rfl ag_rf))]
                  exact hW
                subst hQ9
                exact end_i C hr hlocks (up2 (hv J [164] [] Gl37) 162 a0.toNatClampNeg x1) hWr ⟨show (J 161 a0.toNatClampNeg).toInt < 0 → x40.toInt = 0 from by (intro h9; exfalso; omega), show ∀ k : Nat, (J 161 a0.toNatClampNeg).toInt = (k : Int) → TVL (J 121) (J 124) k (LTR (J 154)) x40 from by (intro k h9; have e9 : k = x1.toNatClampNeg := (by have h8 := tcl x1; omega); rw [e9]; exact hTVr), show CAH (J 121) (J 124) ((up2 J 162 a0.toNatClampNeg x1) 162) (J 163) (Gl37 164) a0.toNatClampNeg from by (exact cah_y (k := x1.toNatClampNeg) (y := J 154) (by rw [up2_s]; have h8 := tcl x1; omega) (hTV) (fun i hi => (hll _).2 i (by have h8 := tcl a0; omega) (by omega))), show ∀ q : Nat, q ≤ 1 → q ≠ a0.toNatClampNeg → CAH (J 121) (J 124) (J 162) (J 163) (J 164) q → CAH (J 121) (J 124) ((up2 J 162 a0.toNatClampNeg x1) 162) (J 163) (Gl37 164) q from by (intro q h1 h2 h3; exact cah_o h3 (up2_f _ _ _ h2) (rfl) (fun i hi => (hll _).1 (by have h8 := tcl a0; omega)))⟩ dX12_asBefore_149
              · have c39 : m3.toInt = 0 := teq rfl kp0 c39
                refine lv_aload_n hx hb dX12_asBefore_116 rfl (lv_at hl 3 rfl) ?_
                refine rg_13_63 C hW (mm_ rfl) tw_1086 dX12_asBefore_117 ?_
                refine lv_iload_n hx hb dX12_asBefore_120 rfl (lv_at hl 4 rfl) ?_
                refine lv_aload_n hx hb dX12_asBefore_121 rfl (lv_at hl 3 rfl) ?_
                refine lv_bipush (v := 60) hx hb dX12_asBefore_122 (by decide) ?_
                refine lv_iload_n hx hb dX12_asBefore_124 rfl (lv_at hl 2 rfl) ?_
                refine lv_imul hx hb dX12_asBefore_125 ?_
                refine lv_topi (fun x41 (e41 : x41 = 60 * x1) => ?_)
                try have t41 : x41.toInt = 60 * x1.toInt := tmul e41 kp60 rfl (by omega)
                refine lv_aload_n hx hb dX12_asBefore_126 rfl (lv_at hl 3 rfl) ?_
                refine rg_13_21 C hW (mm_ rfl) tw_1044 dX12_asBefore_127 ?_
                refine lv_iload_n hx hb dX12_asBefore_130 rfl (lv_at hl 2 rfl) ?_
                have hin : vp_in x1 30 := tin rfl (by omega)
                refine ra_121 C hW (mm_ rfl) hin dX12_asBefore_131 ?_
                refine lv_topi (fun x42 (e42 : x42 = J 121 x1.toNatClampNeg) => ?_)
                have q42 := hts_ x1.toNatClampNeg
                rw [← e42] at q42
                have k42 := tcl x1
                refine ci_ C hW (runV (x := (g.2.2.1 13)) (As := [.int x41, .int x42]) (rest := [.int a0, .ref (g.2.2.1 163)]) (T := (((hv J [164] [] Gl37), L, I, P, E, N), sgM g)) C hW (c_X12_goesThrough_e l g (hv J [164] [] Gl37) L I P E N H.size x41 x42 hwm (show (x41.toInt < 0 ∧ 0 ≤ x42.toInt ∧ x42.toInt ≤ 60) ∨ (0 ≤ x41.toInt ∧ 0 ≤ x42.toInt ∧ x41.toInt + x42.toInt ≤ 1800) from by omega)) mi_X12_goesThrough tw_1342 (recv_ (T := (((hv J [164] [] Gl37), L, I, P, E, N), sgM g)) C hW (mm_ rfl) rfl rfl) ⟨rfl, rfl, Nat.le_of_ble_eq_true rfl, Nat.le_of_ble_eq_true rfl⟩ rfl hl.1 rfl (Nat.le_of_ble_eq_true rfl) dX12_asBefore_132 ⟨Nat.le_of_ble_eq_true rfl, Nat.le_of_ble_eq_true rfl⟩) (fun r43 u43 H locs hp43 hW => ?_)
                obtain ⟨hf43_0, hf43_1⟩ : ((¬ (u43 13 60).toInt = 0 ∧ ∃ c, PT (NX (RBY x41 (J 153) (J 124)) x42) 0 5 0 (u43 13 56).toInt.toNat c ∧ VAL (LTR (J 154)) c r43) ∨ ((u43 13 60).toInt = 0 ∧ PF (NX (RBY x41 (J 153) (J 124)) x42) 0 5 0 (u43 13 56).toInt.toNat)) ∧ (0 ≤ (u43 13 56).toInt) := hp43
                have hW : WB g A s.heap H locs ((hv (hv J [164] [] Gl37) [] [(13, 56), (13, 57), (13, 58), (13, 59), (13, 60)] u43), L, I, P, E, N) (sgM g) := hW
                have hGT := hf43_0
                have hin : vp_in a0 2 := tin rfl (by omega)
                refine rs_163 C hW (mm_ rfl) hin dX12_asBefore_135 (fun H locs hW => ?_)
                have hTV : TVL (J 121) (J 124) x1.toNatClampNeg (LTR (J 154)) r43 := tvl_k (by have h8 := tcl x1; omega) e42 hGT
                refine lv_aload_n hx hb dX12_asBefore_136 rfl (lv_at hl 3 rfl) ?_
                refine rg_13_62 C hW (mm_ rfl) tw_1085 dX12_asBefore_137 ?_
                refine lv_iload_n hx hb dX12_asBefore_140 rfl (lv_at hl 4 rfl) ?_
                refine lv_iload_n hx hb dX12_asBefore_141 rfl (lv_at hl 2 rfl) ?_
                have hin : vp_in a0 2 := tin rfl (by omega)
                refine rs_162 C hW (mm_ rfl) hin dX12_asBefore_142 (fun H locs hW => ?_)
                refine lv_aload_n hx hb dX12_asBefore_143 rfl (lv_at hl 3 rfl) ?_
                refine rg_13_63 C hW (mm_ rfl) tw_1086 dX12_asBefore_144 ?_
                refine lv_iload_n hx hb dX12_asBefore_147 rfl (lv_at hl 4 rfl) ?_
                have hin : vp_in a0 2 := tin rfl (by omega)
                refine ra_163 C hW (mm_ rfl) hin dX12_asBefore_148 ?_
                refine lv_topi (fun x44 (e44 : x44 = (up2 J 163 a0.toNatClampNeg r43) 163 a0.toNatClampNeg) => ?_)
                have hTVr : TVL (J 121) (J 124) x1.toNatClampNeg (LTR (J 154)) x44 := by rw [e44, up2_s]; exact hTV
                have hWr : WB g A s.heap H locs (hv J [162, 163, 164] [(13, 56), (13, 57), (13, 58), (13, 59), (13, 60)] (up2 (up2 (hv (hv J [164] [] Gl37) [] [(13, 56), (13, 57), (13, 58), (13, 59), (13, 60)] u43) 163 a0.toNatClampNeg r43) 162 a0.toNatClampNeg x1), L, I, P, E, N) (sgM g) := by
                  rw [← ag_hvE (J := J) (R := [162, 163, 164]) (F := [(13, 56), (13, 57), (13, 58), (13, 59), (13, 60)]) (ag_up (Or.inl rfl) (ag_up (Or.inl rfl) (ag_hv rfl rfl (ag_hv rfl rfl ag_rf))))]
                  exact hW
                subst hQ9
                exact end_i C hr hlocks (up2 (up2 (hv (hv J [164] [] Gl37) [] [(13, 56), (13, 57), (13, 58), (13, 59), (13, 60)] u43) 163 a0.toNatClampNeg r43) 162 a0.toNatClampNeg x1) hWr ⟨show (J 161 a0.toNatClampNeg).toInt < 0 → x44.toInt = 0 from by (intro h9; exfalso; omega), show ∀ k : Nat, (J 161 a0.toNatClampNeg).toInt = (k : Int) → TVL (J 121) (J 124) k (LTR (J 154)) x44 from by (intro k h9; have e9 : k = x1.toNatClampNeg := (by have h8 := tcl x1; omega); rw [e9]; exact hTVr), show CAH (J 121) (J 124) ((up2 J 162 a0.toNatClampNeg x1) 162) ((up2 J 163 a0.toNatClampNeg r43) 163) (Gl37 164) a0.toNatClampNeg from by (exact cah_y (k := x1.toNatClampNeg) (y := J 154) (by rw [up2_s]; have h8 := tcl x1; omega) (by rw [up2_s]; exact hTV) (fun i hi => (hll _).2 i (by have h8 := tcl a0; omega) (by omega))), show ∀ q : Nat, q ≤ 1 → q ≠ a0.toNatClampNeg → CAH (J 121) (J 124) (J 162) (J 163) (J 164) q → CAH (J 121) (J 124) ((up2 J 162 a0.toNatClampNeg x1) 162) ((up2 J 163 a0.toNatClampNeg r43) 163) (Gl37 164) q from by (intro q h1 h2 h3; exact cah_o h3 (up2_f _ _ _ h2) (up2_f _ _ _ h2) (fun i hi => (hll _).1 (by have h8 := tcl a0; omega)))⟩ dX12_asBefore_149
            · have c38 : m4.toInt < 7 := tnle kp7 rfl c38
              refine lv_iload_n hx hb dX12_asBefore_49 rfl (lv_at hl 1 rfl) ?_
              refine lv_if_eq (tgt := 82) hx hb dX12_asBefore_50 (by decide) (fun c45 => ?_) (fun c45 => ?_)
              · have c45 : m3.toInt = 0 := teq rfl kp0 c45
                refine lv_iconst (v := 0) hx hb dX12_asBefore_82 (by decide) ?_
                refine lv_istore_n (lv' := [(3, .int 0), (4, .int m4), (2, .int x1), (0, .ref (g.2.2.1 13)), (1, .int a0)]) hx hb dX12_asBefore_83 rfl hl (by decide) rfl (fun ls hl => ?_)
                refine lv_aload_n hx hb dX12_asBefore_84 rfl (lv_at hl 3 rfl) ?_
                refine rg_13_64 C hW (mm_ rfl) tw_1087 dX12_asBefore_85 ?_
                refine lv_bipush (v := 7) hx hb dX12_asBefore_88 (by decide) ?_
                refine lv_iload_n hx hb dX12_asBefore_90 rfl (lv_at hl 4 rfl) ?_
                refine lv_imul hx hb dX12_asBefore_91 ?_
                refine lv_topi (fun x46 (e46 : x46 = 7 * a0) => ?_)
                try have t46 : x46.toInt = 7 * a0.toInt := tmul e46 kp7 rfl (by omega)
                refine lv_iload hx hb dX12_asBefore_92 (lv_at hl 1 rfl) ?_
                refine lv_iadd hx hb dX12_asBefore_94 ?_
                refine lv_topi (fun x47 (e47 : x47 = x46 + m4) => ?_)
                try have t47 : x47.toInt = x46.toInt + m4.toInt := tadd e47 rfl rfl (by omega)
                refine lv_aload_n hx hb dX12_asBefore_95 rfl (lv_at hl 3 rfl) ?_
                refine rg_13_54 C hW (mm_ rfl) tw_1077 dX12_asBefore_96 ?_
                refine lv_iload hx hb dX12_asBefore_99 (lv_at hl 1 rfl) ?_
                refine ci_ C hW (runS (As := [.int m4]) (rest := [.ref (g.2.2.1 154), .int x47, .ref (g.2.2.1 164)]) (T := (((hv J [164] [] Gl37), L, I, P, E, N), sgM g)) C hW (c_X12_letterOf_a l g (hv J [164] [] Gl37) L I P E N H.size m4 ) mi_X12_letterOf tw_1449 ⟨rfl, rfl, Nat.le_of_ble_eq_true rfl, Nat.le_of_ble_eq_true rfl⟩ rfl hl.1 rfl (Nat.le_of_ble_eq_true rfl) dX12_asBefore_101 ⟨Nat.le_of_ble_eq_true rfl, Nat.le_of_ble_eq_true rfl⟩) (fun r48 u48 H locs hp48 hW => ?_)
                obtain ⟨hf48_0, hf48_1⟩ : (0 ≤ r48.toInt ∧ r48.toInt < 128) ∧ ((m4.toInt = 0 → r48.toInt = 107) ∧ (m4.toInt = 1 → r48.toInt = 104) ∧ (m4.toInt = 2 → r48.toInt = 118) ∧ (m4.toInt = 3 → r48.toInt = 115) ∧ (m4.toInt = 4 → r48.toInt = 109) ∧ (m4.toInt = 5 → r48.toInt = 119) ∧ (6 ≤ m4.toInt → r48.toInt = 110)) := hp48
                have hW : WB g A s.heap H locs ((hv J [164] [] Gl37), L, I, P, E, N) (sgM g) := hW
                have hLO2 := hid_i hf48_1
                clear hf48_1
                have hin : vp_in r48 128 := tin rfl (by omega)
                refine ra_154 C hW (mm_ rfl) hin dX12_asBefore_104 ?_
                refine lv_topi (fun x49 (e49 : x49 = J 154 r48.toNatClampNeg) => ?_)
                have t49 : x49.toInt = (J 154 r48.toNatClampNeg).toInt := by rw [e49]
                have hin : vp_in x47 14 := tin rfl (by omega)
                refine rs_164 C hW (mm_ rfl) hin dX12_asBefore_105 (fun H locs hW => ?_)
                obtain ⟨x50, e50⟩ : ∃ y : Int32, y = m4 + 1 := ⟨_, rfl⟩
                refine lv_iinc (v := x50) (lv' := [(4, .int x50), (3, .int 0), (2, .int x1), (0, .ref (g.2.2.1 13)), (1, .int a0)]) hx hb dX12_asBefore_106 hl (k := 1) rfl (by rw [e50]; rfl) (by decide) rfl (fun ls hl => ?_)
                try have t50 : x50.toInt = m4.toInt + 1 := tadd e50 rfl kp1 (by omega)
                refine lv_goto (tgt := 42) hx hb dX12_asBefore_109 (by decide) ?_
                have hWl : WB g A s.heap H locs ((hv J [164] [] (up2 (hv J [164] [] Gl37) 164 x47.toNatClampNeg x49)), L, I, P, E, N) (sgM g) := by
                  rw [← ag_hvE (J := J) (R := [164]) (F := []) (ag_up (Or.inl rfl) (ag_hv rfl rfl ag_rf))]
                  exact hW
                refine ih 0 x50 (up2 (hv J [164] [] Gl37) 164 x47.toNatClampNeg x49) H locs ls ?_ ?_ ?_ ?_ hWl (lv_sub hl [0, 1, 2, 3, 4] rfl)
                · show (7 - x50.toInt).toNat < n
                  omega
                · show 0 ≤ x50.toInt ∧ x50.toInt ≤ 7 ∧ ((0 : Int32).toInt = 0 ∨ (0 : Int32).toInt = 1)
                  first | exact ⟨by omega, by omega, Or.inr kp1⟩ | exact ⟨by omega, by omega, Or.inl kp0⟩
                · show (0 : Int32).toInt = 1 → (J 162 a0.toNatClampNeg).toInt = x1.toInt ∧ (∀ i : Nat, (i : Int) < (J 121 x1.toNatClampNeg).toInt → ¬ (J 124 (60 * x1.toNatClampNeg + i)).toInt = 97) ∧ SML (J 164) (J 154) a0.toInt x50.toInt
                  (intro h9; exfalso; exact absurd h9 (by decide))
                · show LLR (J 164) ((up2 Gl37 164 x47.toNatClampNeg x49) 164) (J 154) a0.toInt x50.toInt
                  exact llr_s hll rfl (u := x47) (by omega) (by omega) (by omega) (by omega) (e49.trans (congrArg (J 154) (li_of (hid_o hLO2) (by omega))))
              · have c45 : ¬ m3.toInt = 0 := tne rfl kp0 c45
                refine lv_aload_n hx hb dX12_asBefore_53 rfl (lv_at hl 3 rfl) ?_
                refine rg_13_64 C hW (mm_ rfl) tw_1087 dX12_asBefore_54 ?_
                refine lv_bipush (v := 7) hx hb dX12_asBefore_57 (by decide) ?_
                refine lv_iload_n hx hb dX12_asBefore_59 rfl (lv_at hl 4 rfl) ?_
                refine lv_imul hx hb dX12_asBefore_60 ?_
                refine lv_topi (fun x51 (e51 : x51 = 7 * a0) => ?_)
                try have t51 : x51.toInt = 7 * a0.toInt := tmul e51 kp7 rfl (by omega)
                refine lv_iload hx hb dX12_asBefore_61 (lv_at hl 0 rfl) ?_
                refine lv_iadd hx hb dX12_asBefore_63 ?_
                refine lv_topi (fun x52 (e52 : x52 = x51 + m4) => ?_)
                try have t52 : x52.toInt = x51.toInt + m4.toInt := tadd e52 rfl rfl (by omega)
                have hin : vp_in x52 14 := tin rfl (by omega)
                refine ra_164 C hW (mm_ rfl) hin dX12_asBefore_64 ?_
                refine lv_topi (fun x53 (e53 : x53 = Gl37 164 x52.toNatClampNeg) => ?_)
                have t53 : x53.toInt = (Gl37 164 x52.toNatClampNeg).toInt := by rw [e53]
                refine lv_aload_n hx hb dX12_asBefore_65 rfl (lv_at hl 3 rfl) ?_
                refine rg_13_54 C hW (mm_ rfl) tw_1077 dX12_asBefore_66 ?_
                refine lv_iload hx hb dX12_asBefore_69 (lv_at hl 0 rfl) ?_
                refine ci_ C hW (runS (As := [.int m4]) (rest := [.ref (g.2.2.1 154), .int x53]) (T := (((hv J [164] [] Gl37), L, I, P, E, N), sgM g)) C hW (c_X12_letterOf_a l g (hv J [164] [] Gl37) L I P E N H.size m4 ) mi_X12_letterOf tw_1449 ⟨rfl, rfl, Nat.le_of_ble_eq_true rfl, Nat.le_of_ble_eq_true rfl⟩ rfl hl.1 rfl (Nat.le_of_ble_eq_true rfl) dX12_asBefore_71 ⟨Nat.le_of_ble_eq_true rfl, Nat.le_of_ble_eq_true rfl⟩) (fun r54 u54 H locs hp54 hW => ?_)
                obtain ⟨hf54_0, hf54_1⟩ : (0 ≤ r54.toInt ∧ r54.toInt < 128) ∧ ((m4.toInt = 0 → r54.toInt = 107) ∧ (m4.toInt = 1 → r54.toInt = 104) ∧ (m4.toInt = 2 → r54.toInt = 118) ∧ (m4.toInt = 3 → r54.toInt = 115) ∧ (m4.toInt = 4 → r54.toInt = 109) ∧ (m4.toInt = 5 → r54.toInt = 119) ∧ (6 ≤ m4.toInt → r54.toInt = 110)) := hp54
                have hW : WB g A s.heap H locs ((hv J [164] [] Gl37), L, I, P, E, N) (sgM g) := hW
                have hLO := hid_i hf54_1
                clear hf54_1
                have hin : vp_in r54 128 := tin rfl (by omega)
                refine ra_154 C hW (mm_ rfl) hin dX12_asBefore_74 ?_
                refine lv_topi (fun x55 (e55 : x55 = J 154 r54.toNatClampNeg) => ?_)
                have t55 : x55.toInt = (J 154 r54.toNatClampNeg).toInt := by rw [e55]
                refine lv_icmp_ne (tgt := 82) hx hb dX12_asBefore_75 (by decide) (fun c56 => ?_) (fun c56 => ?_)
                · have c56 : ¬ x53.toInt = x55.toInt := tne rfl rfl c56
                  refine lv_iconst (v := 0) hx hb dX12_asBefore_82 (by decide) ?_
                  refine lv_istore_n (lv' := [(3, .int 0), (4, .int m4), (2, .int x1), (0, .ref (g.2.2.1 13)), (1, .int a0)]) hx hb dX12_asBefore_83 rfl hl (by decide) rfl (fun ls hl => ?_)
                  refine lv_aload_n hx hb dX12_asBefore_84 rfl (lv_at hl 3 rfl) ?_
                  refine rg_13_64 C hW (mm_ rfl) tw_1087 dX12_asBefore_85 ?_
                  refine lv_bipush (v := 7) hx hb dX12_asBefore_88 (by decide) ?_
                  refine lv_iload_n hx hb dX12_asBefore_90 rfl (lv_at hl 4 rfl) ?_
                  refine lv_imul hx hb dX12_asBefore_91 ?_
                  refine lv_topi (fun x57 (e57 : x57 = 7 * a0) => ?_)
                  try have t57 : x57.toInt = 7 * a0.toInt := tmul e57 kp7 rfl (by omega)
                  refine lv_iload hx hb dX12_asBefore_92 (lv_at hl 1 rfl) ?_
                  refine lv_iadd hx hb dX12_asBefore_94 ?_
                  refine lv_topi (fun x58 (e58 : x58 = x57 + m4) => ?_)
                  try have t58 : x58.toInt = x57.toInt + m4.toInt := tadd e58 rfl rfl (by omega)
                  refine lv_aload_n hx hb dX12_asBefore_95 rfl (lv_at hl 3 rfl) ?_
                  refine rg_13_54 C hW (mm_ rfl) tw_1077 dX12_asBefore_96 ?_
                  refine lv_iload hx hb dX12_asBefore_99 (lv_at hl 1 rfl) ?_
                  refine ci_ C hW (runS (As := [.int m4]) (rest := [.ref (g.2.2.1 154), .int x58, .ref (g.2.2.1 164)]) (T := (((hv J [164] [] Gl37), L, I, P, E, N), sgM g)) C hW (c_X12_letterOf_a l g (hv J [164] [] Gl37) L I P E N H.size m4 ) mi_X12_letterOf tw_1449 ⟨rfl, rfl, Nat.le_of_ble_eq_true rfl, Nat.le_of_ble_eq_true rfl⟩ rfl hl.1 rfl (Nat.le_of_ble_eq_true rfl) dX12_asBefore_101 ⟨Nat.le_of_ble_eq_true rfl, Nat.le_of_ble_eq_true rfl⟩) (fun r59 u59 H locs hp59 hW => ?_)
                  obtain ⟨hf59_0, hf59_1⟩ : (0 ≤ r59.toInt ∧ r59.toInt < 128) ∧ ((m4.toInt = 0 → r59.toInt = 107) ∧ (m4.toInt = 1 → r59.toInt = 104) ∧ (m4.toInt = 2 → r59.toInt = 118) ∧ (m4.toInt = 3 → r59.toInt = 115) ∧ (m4.toInt = 4 → r59.toInt = 109) ∧ (m4.toInt = 5 → r59.toInt = 119) ∧ (6 ≤ m4.toInt → r59.toInt = 110)) := hp59
                  have hW : WB g A s.heap H locs ((hv J [164] [] Gl37), L, I, P, E, N) (sgM g) := hW
                  have hLO2 := hid_i hf59_1
                  clear hf59_1
                  have hin : vp_in r59 128 := tin rfl (by omega)
                  refine ra_154 C hW (mm_ rfl) hin dX12_asBefore_104 ?_
                  refine lv_topi (fun x60 (e60 : x60 = J 154 r59.toNatClampNeg) => ?_)
                  have t60 : x60.toInt = (J 154 r59.toNatClampNeg).toInt := by rw [e60]
                  have hin : vp_in x58 14 := tin rfl (by omega)
                  refine rs_164 C hW (mm_ rfl) hin dX12_asBefore_105 (fun H locs hW => ?_)
                  obtain ⟨x61, e61⟩ : ∃ y : Int32, y = m4 + 1 := ⟨_, rfl⟩
                  refine lv_iinc (v := x61) (lv' := [(4, .int x61), (3, .int 0), (2, .int x1), (0, .ref (g.2.2.1 13)), (1, .int a0)]) hx hb dX12_asBefore_106 hl (k := 1) rfl (by rw [e61]; rfl) (by decide) rfl (fun ls hl => ?_)
                  try have t61 : x61.toInt = m4.toInt + 1 := tadd e61 rfl kp1 (by omega)
                  refine lv_goto (tgt := 42) hx hb dX12_asBefore_109 (by decide) ?_
                  have hWl : WB g A s.heap H locs ((hv J [164] [] (up2 (hv J [164] [] Gl37) 164 x58.toNatClampNeg x60)), L, I, P, E, N) (sgM g) := by
                    rw [← ag_hvE (J := J) (R := [164]) (F := []) (ag_up (Or.inl rfl) (ag_hv rfl rfl ag_rf))]
                    exact hW
                  refine ih 0 x61 (up2 (hv J [164] [] Gl37) 164 x58.toNatClampNeg x60) H locs ls ?_ ?_ ?_ ?_ hWl (lv_sub hl [0, 1, 2, 3, 4] rfl)
                  · show (7 - x61.toInt).toNat < n
                    omega
                  · show 0 ≤ x61.toInt ∧ x61.toInt ≤ 7 ∧ ((0 : Int32).toInt = 0 ∨ (0 : Int32).toInt = 1)
                    first | exact ⟨by omega, by omega, Or.inr kp1⟩ | exact ⟨by omega, by omega, Or.inl kp0⟩
                  · show (0 : Int32).toInt = 1 → (J 162 a0.toNatClampNeg).toInt = x1.toInt ∧ (∀ i : Nat, (i : Int) < (J 121 x1.toNatClampNeg).toInt → ¬ (J 124 (60 * x1.toNatClampNeg + i)).toInt = 97) ∧ SML (J 164) (J 154) a0.toInt x61.toInt
                    (intro h9; exfalso; exact absurd h9 (by decide))
                  · show LLR (J 164) ((up2 Gl37 164 x58.toNatClampNeg x60) 164) (J 154) a0.toInt x61.toInt
                    exact llr_s hll rfl (u := x58) (by omega) (by omega) (by omega) (by omega) (e60.trans (congrArg (J 154) (li_of (hid_o hLO2) (by omega))))
                · have c56 : x53.toInt = x55.toInt := teq rfl rfl c56
                  refine lv_iconst (v := 1) hx hb dX12_asBefore_78 (by decide) ?_
                  refine lv_goto (tgt := 83) hx hb dX12_asBefore_79 (by decide) ?_
                  refine lv_istore_n (lv' := [(3, .int 1), (4, .int m4), (2, .int x1), (0, .ref (g.2.2.1 13)), (1, .int a0)]) hx hb dX12_asBefore_83 rfl hl (by decide) rfl (fun ls hl => ?_)
                  refine lv_aload_n hx hb dX12_asBefore_84 rfl (lv_at hl 3 rfl) ?_
                  refine rg_13_64 C hW (mm_ rfl) tw_1087 dX12_asBefore_85 ?_
                  refine lv_bipush (v := 7) hx hb dX12_asBefore_88 (by decide) ?_
                  refine lv_iload_n hx hb dX12_asBefore_90 rfl (lv_at hl 4 rfl) ?_
                  refine lv_imul hx hb dX12_asBefore_91 ?_
                  refine lv_topi (fun x62 (e62 : x62 = 7 * a0) => ?_)
                  try have t62 : x62.toInt = 7 * a0.toInt := tmul e62 kp7 rfl (by omega)
                  refine lv_iload hx hb dX12_asBefore_92 (lv_at hl 1 rfl) ?_
                  refine lv_iadd hx hb dX12_asBefore_94 ?_
                  refine lv_topi (fun x63 (e63 : x63 = x62 + m4) => ?_)
                  try have t63 : x63.toInt = x62.toInt + m4.toInt := tadd e63 rfl rfl (by omega)
                  refine lv_aload_n hx hb dX12_asBefore_95 rfl (lv_at hl 3 rfl) ?_
                  refine rg_13_54 C hW (mm_ rfl) tw_1077 dX12_asBefore_96 ?_
                  refine lv_iload hx hb dX12_asBefore_99 (lv_at hl 1 rfl) ?_
                  refine ci_ C hW (runS (As := [.int m4]) (rest := [.ref (g.2.2.1 154), .int x63, .ref (g.2.2.1 164)]) (T := (((hv J [164] [] Gl37), L, I, P, E, N), sgM g)) C hW (c_X12_letterOf_a l g (hv J [164] [] Gl37) L I P E N H.size m4 ) mi_X12_letterOf tw_1449 ⟨rfl, rfl, Nat.le_of_ble_eq_true rfl, Nat.le_of_ble_eq_true rfl⟩ rfl hl.1 rfl (Nat.le_of_ble_eq_true rfl) dX12_asBefore_101 ⟨Nat.le_of_ble_eq_true rfl, Nat.le_of_ble_eq_true rfl⟩) (fun r64 u64 H locs hp64 hW => ?_)
                  obtain ⟨hf64_0, hf64_1⟩ : (0 ≤ r64.toInt ∧ r64.toInt < 128) ∧ ((m4.toInt = 0 → r64.toInt = 107) ∧ (m4.toInt = 1 → r64.toInt = 104) ∧ (m4.toInt = 2 → r64.toInt = 118) ∧ (m4.toInt = 3 → r64.toInt = 115) ∧ (m4.toInt = 4 → r64.toInt = 109) ∧ (m4.toInt = 5 → r64.toInt = 119) ∧ (6 ≤ m4.toInt → r64.toInt = 110)) := hp64
                  have hW : WB g A s.heap H locs ((hv J [164] [] Gl37), L, I, P, E, N) (sgM g) := hW
                  have hLO2 := hid_i hf64_1
                  clear hf64_1
                  have hin : vp_in r64 128 := tin rfl (by omega)
                  refine ra_154 C hW (mm_ rfl) hin dX12_asBefore_104 ?_
                  refine lv_topi (fun x65 (e65 : x65 = J 154 r64.toNatClampNeg) => ?_)
                  have t65 : x65.toInt = (J 154 r64.toNatClampNeg).toInt := by rw [e65]
                  have hin : vp_in x63 14 := tin rfl (by omega)
                  refine rs_164 C hW (mm_ rfl) hin dX12_asBefore_105 (fun H locs hW => ?_)
                  obtain ⟨x66, e66⟩ : ∃ y : Int32, y = m4 + 1 := ⟨_, rfl⟩
                  refine lv_iinc (v := x66) (lv' := [(4, .int x66), (3, .int 1), (2, .int x1), (0, .ref (g.2.2.1 13)), (1, .int a0)]) hx hb dX12_asBefore_106 hl (k := 1) rfl (by rw [e66]; rfl) (by decide) rfl (fun ls hl => ?_)
                  try have t66 : x66.toInt = m4.toInt + 1 := tadd e66 rfl kp1 (by omega)
                  refine lv_goto (tgt := 42) hx hb dX12_asBefore_109 (by decide) ?_
                  have hWl : WB g A s.heap H locs ((hv J [164] [] (up2 (hv J [164] [] Gl37) 164 x63.toNatClampNeg x65)), L, I, P, E, N) (sgM g) := by
                    rw [← ag_hvE (J := J) (R := [164]) (F := []) (ag_up (Or.inl rfl) (ag_hv rfl rfl ag_rf))]
                    exact hW
                  refine ih 1 x66 (up2 (hv J [164] [] Gl37) 164 x63.toNatClampNeg x65) H locs ls ?_ ?_ ?_ ?_ hWl (lv_sub hl [0, 1, 2, 3, 4] rfl)
                  · show (7 - x66.toInt).toNat < n
                    omega
                  · show 0 ≤ x66.toInt ∧ x66.toInt ≤ 7 ∧ ((1 : Int32).toInt = 0 ∨ (1 : Int32).toInt = 1)
                    first | exact ⟨by omega, by omega, Or.inr kp1⟩ | exact ⟨by omega, by omega, Or.inl kp0⟩
                  · show (1 : Int32).toInt = 1 → (J 162 a0.toNatClampNeg).toInt = x1.toInt ∧ (∀ i : Nat, (i : Int) < (J 121 x1.toNatClampNeg).toInt → ¬ (J 124 (60 * x1.toNatClampNeg + i)).toInt = 97) ∧ SML (J 164) (J 154) a0.toInt x66.toInt
                    (intro h9; obtain ⟨y1, y2, y3⟩ := hsa (by omega); exact ⟨y1, y2, sml_s y3 hll (u := x52) (by omega) (by omega) (by omega) (by omega) (li_of (hid_o hLO) (by omega)) (by rw [← e53, ← e55]; omega)⟩)
                  · show LLR (J 164) ((up2 Gl37 164 x63.toNatClampNeg x65) 164) (J 154) a0.toInt x66.toInt
                    exact llr_s hll rfl (u := x63) (by omega) (by omega) (by omega) (by omega) (e65.trans (congrArg (J 154) (li_of (hid_o hLO2) (by omega))))
        -- into the loop
        have hWl : WB g A s.heap H locs ((hv J [164] [] J), L, I, P, E, N) (sgM g) := by
          rw [← ag_hvE (J := J) (R := [164]) (F := []) ag_rf]
          exact hW
        refine loop42 ((7 - (0 : Int32).toInt).toNat + 1) 0 0 J H locs ls ?_ ?_ ?_ ?_ hWl (lv_sub hl [0, 1, 2, 3, 4] rfl)
        · exact Nat.lt_succ_self _
        · show 0 ≤ (0 : Int32).toInt ∧ (0 : Int32).toInt ≤ 7 ∧ ((0 : Int32).toInt = 0 ∨ (0 : Int32).toInt = 1)
          try rw [kp0]
          try rw [kp0]
          first | omega | exact ⟨by omega, by omega, Or.inr rfl⟩ | exact ⟨by omega, by omega, Or.inl rfl⟩
        · show (0 : Int32).toInt = 1 → (J 162 a0.toNatClampNeg).toInt = x1.toInt ∧ (∀ i : Nat, (i : Int) < (J 121 x1.toNatClampNeg).toInt → ¬ (J 124 (60 * x1.toNatClampNeg + i)).toInt = 97) ∧ SML (J 164) (J 154) a0.toInt (0 : Int32).toInt
          try rw [kp0]
          try rw [kp0]
          first | (intro h9; exact absurd h9 (by decide)) | (intro h9; exfalso; omega) | exact fun _ => ⟨by omega, hHA.elim (fun q => absurd q (by omega)) (fun q => q.2), fun q j h1 h2 => by omega⟩
        · show LLR (J 164) (J 164) (J 154) a0.toInt (0 : Int32).toInt
          try rw [kp0]
          try rw [kp0]
          exact llr_0 (by first | rfl | exact kp0)
      · have c36 : r35.toInt = 0 := teq rfl kp0 c36
        refine lv_iconst (v := 1) hx hb dX12_asBefore_33 (by decide) ?_
        refine lv_goto (tgt := 38) hx hb dX12_asBefore_34 (by decide) ?_
        refine lv_istore_n (lv' := [(3, .int 1), (2, .int x1), (0, .ref (g.2.2.1 13)), (1, .int a0)]) hx hb dX12_asBefore_38 rfl hl (by decide) rfl (fun ls hl => ?_)
        refine lv_iconst (v := 0) hx hb dX12_asBefore_39 (by decide) ?_
        refine lv_istore (lv' := [(4, .int 0), (3, .int 1), (2, .int x1), (0, .ref (g.2.2.1 13)), (1, .int a0)]) hx hb dX12_asBefore_40 hl (by decide) rfl (fun ls hl => ?_)
        have loop42 : ∀ (n : Nat) (m3 : Int32) (m4 : Int32) (Gl67 : Nat → Nat → Int32) (H : Heap) (locs : List Loc) (ls : Array Slot), (7 - m4.toInt).toNat < n → 0 ≤ m4.toInt ∧ m4.toInt ≤ 7 ∧ (m3.toInt = 0 ∨ m3.toInt = 1) → (m3.toInt = 1 → (J 162 a0.toNatClampNeg).toInt = x1.toInt ∧ (∀ i : Nat, (i : Int) < (J 121 x1.toNatClampNeg).toInt → ¬ (J 124 (60 * x1.toNatClampNeg + i)).toInt = 97) ∧ SML (J 164) (J 154) a0.toInt m4.toInt) → LLR (J 164) (Gl67 164) (J 154) a0.toInt m4.toInt → WB g A s.heap H locs ((hv J [164] [] Gl67), L, I, P, E, N) (sgM g) → lv_has ls 5 [(4, .int m4), (3, .int m3), (2, .int x1), (0, .ref (g.2.2.1 13)), (1, .int a0)] → W p l e (RM (32) 0 0) s m ([.ref (g.2.2.1 13), .int a0] : List Value).toArray below meth c H locs 0 0 (MQ below Q9 ([.ref (g.2.2.1 13), .int a0] : List Value).toArray s 0 0 A) (F0 m 42 ls []) := by
          intro n
          induction n with
          | zero => intro m3 m4 Gl67 H locs ls hmeas; exact absurd hmeas (Nat.not_lt_zero _)
          | succ n ih =>
            intro m3 m4 Gl67 H locs ls hmeas hi hsa hll hW hl
            refine lv_iload hx hb dX12_asBefore_42 (lv_at hl 0 rfl) ?_
            refine lv_bipush (v := 7) hx hb dX12_asBefore_44 (by decide) ?_
            refine lv_icmp_ge (tgt := 112) hx hb dX12_asBefore_46 (by decide) (fun c68 => ?_) (fun c68 => ?_)
            · have c68 : 7 ≤ m4.toInt := tle kp7 rfl c68
              refine lv_iload_n hx hb dX12_asBefore_112 rfl (lv_at hl 1 rfl) ?_
              refine lv_if_ne (tgt := 136) hx hb dX12_asBefore_113 (by decide) (fun c69 => ?_) (fun c69 => ?_)
              · have c69 : ¬ m3.toInt = 0 := tne rfl kp0 c69
                obtain ⟨hz1, hz2, hz3⟩ := hsa (by omega)
                have hTV : TVL (J 121) (J 124) x1.toNatClampNeg (LTR (J 154)) (J 163 a0.toNatClampNeg) := cah_s (y := J 154) hca (by have h8 := tcl x1; omega) hz2 (fun i hi => hz3 _ i (by have h8 := tcl a0; omega) (by omega))
                refine lv_aload_n hx hb dX12_asBefore_136 rfl (lv_at hl 3 rfl) ?_
                refine rg_13_62 C hW (mm_ rfl) tw_1085 dX12_asBefore_137 ?_
                refine lv_iload_n hx hb dX12_asBefore_140 rfl (lv_at hl 4 rfl) ?_
                refine lv_iload_n hx hb dX12_asBefore_141 rfl (lv_at hl 2 rfl) ?_
                have hin : vp_in a0 2 := tin rfl (by omega)
                refine rs_162 C hW (mm_ rfl) hin dX12_asBefore_142 (fun H locs hW => ?_)
                refine lv_aload_n hx hb dX12_asBefore_143 rfl (lv_at hl 3 rfl) ?_
                refine rg_13_63 C hW (mm_ rfl) tw_1086 dX12_asBefore_144 ?_
                refine lv_iload_n hx hb dX12_asBefore_147 rfl (lv_at hl 4 rfl) ?_
                have hin : vp_in a0 2 := tin rfl (by omega)
                refine ra_163 C hW (mm_ rfl) hin dX12_asBefore_148 ?_
                refine lv_topi (fun x70 (e70 : x70 = J 163 a0.toNatClampNeg) => ?_)
                have hTVr : TVL (J 121) (J 124) x1.toNatClampNeg (LTR (J 154)) x70 := by rw [e70]; exact hTV
                have hWr : WB g A s.heap H locs (hv J [162, 163, 164] [(13, 56), (13, 57), (13, 58), (13, 59), (13, 60)] (up2 (hv J [164] [] Gl67) 162 a0.toNatClampNeg x1), L, I, P, E, N) (sgM g) := by
                  rw [← ag_hvE (J := J) (R := [162, 163, 164]) (F := [(13, 56), (13, 57), (13, 58), (13, 59), (13, 60)]) (ag_up (Or.inl rfl) (ag_hv rfl rfl ag_rf))]
                  exact hW
                subst hQ9
                exact end_i C hr hlocks (up2 (hv J [164] [] Gl67) 162 a0.toNatClampNeg x1) hWr ⟨show (J 161 a0.toNatClampNeg).toInt < 0 → x70.toInt = 0 from by (intro h9; exfalso; omega), show ∀ k : Nat, (J 161 a0.toNatClampNeg).toInt = (k : Int) → TVL (J 121) (J 124) k (LTR (J 154)) x70 from by (intro k h9; have e9 : k = x1.toNatClampNeg := (by have h8 := tcl x1; omega); rw [e9]; exact hTVr), show CAH (J 121) (J 124) ((up2 J 162 a0.toNatClampNeg x1) 162) (J 163) (Gl67 164) a0.toNatClampNeg from by (exact cah_y (k := x1.toNatClampNeg) (y := J 154) (by rw [up2_s]; have h8 := tcl x1; omega) (hTV) (fun i hi => (hll _).2 i (by have h8 := tcl a0; omega) (by omega))), show ∀ q : Nat, q ≤ 1 → q ≠ a0.toNatClampNeg → CAH (J 121) (J 124) (J 162) (J 163) (J 164) q → CAH (J 121) (J 124) ((up2 J 162 a0.toNatClampNeg x1) 162) (J 163) (Gl67 164) q from by (intro q h1 h2 h3; exact cah_o h3 (up2_f _ _ _ h2) (rfl) (fun i hi => (hll _).1 (by have h8 := tcl a0; omega)))⟩ dX12_asBefore_149
              · have c69 : m3.toInt = 0 := teq rfl kp0 c69
                refine lv_aload_n hx hb dX12_asBefore_116 rfl (lv_at hl 3 rfl) ?_
                refine rg_13_63 C hW (mm_ rfl) tw_1086 dX12_asBefore_117 ?_
                refine lv_iload_n hx hb dX12_asBefore_120 rfl (lv_at hl 4 rfl) ?_
                refine lv_aload_n hx hb dX12_asBefore_121 rfl (lv_at hl 3 rfl) ?_
                refine lv_bipush (v := 60) hx hb dX12_asBefore_122 (by decide) ?_
                refine lv_iload_n hx hb dX12_asBefore_124 rfl (lv_at hl 2 rfl) ?_
                refine lv_imul hx hb dX12_asBefore_125 ?_
                refine lv_topi (fun x71 (e71 : x71 = 60 * x1) => ?_)
                try have t71 : x71.toInt = 60 * x1.toInt := tmul e71 kp60 rfl (by omega)
                refine lv_aload_n hx hb dX12_asBefore_126 rfl (lv_at hl 3 rfl) ?_
                refine rg_13_21 C hW (mm_ rfl) tw_1044 dX12_asBefore_127 ?_
                refine lv_iload_n hx hb dX12_asBefore_130 rfl (lv_at hl 2 rfl) ?_
                have hin : vp_in x1 30 := tin rfl (by omega)
                refine ra_121 C hW (mm_ rfl) hin dX12_asBefore_131 ?_
                refine lv_topi (fun x72 (e72 : x72 = J 121 x1.toNatClampNeg) => ?_)
                have q72 := hts_ x1.toNatClampNeg
                rw [← e72] at q72
                have k72 := tcl x1
                refine ci_ C hW (runV (x := (g.2.2.1 13)) (As := [.int x71, .int x72]) (rest := [.int a0, .ref (g.2.2.1 163)]) (T := (((hv J [164] [] Gl67), L, I, P, E, N), sgM g)) C hW (c_X12_goesThrough_e l g (hv J [164] [] Gl67) L I P E N H.size x71 x72 hwm (show (x71.toInt < 0 ∧ 0 ≤ x72.toInt ∧ x72.toInt ≤ 60) ∨ (0 ≤ x71.toInt ∧ 0 ≤ x72.toInt ∧ x71.toInt + x72.toInt ≤ 1800) from by omega)) mi_X12_goesThrough tw_1342 (recv_ (T := (((hv J [164] [] Gl67), L, I, P, E, N), sgM g)) C hW (mm_ rfl) rfl rfl) ⟨rfl, rfl, Nat.le_of_ble_eq_true rfl, Nat.le_of_ble_eq_true rfl⟩ rfl hl.1 rfl (Nat.le_of_ble_eq_true rfl) dX12_asBefore_132 ⟨Nat.le_of_ble_eq_true rfl, Nat.le_of_ble_eq_true rfl⟩) (fun r73 u73 H locs hp73 hW => ?_)
                obtain ⟨hf73_0, hf73_1⟩ : ((¬ (u73 13 60).toInt = 0 ∧ ∃ c, PT (NX (RBY x71 (J 153) (J 124)) x72) 0 5 0 (u73 13 56).toInt.toNat c ∧ VAL (LTR (J 154)) c r73) ∨ ((u73 13 60).toInt = 0 ∧ PF (NX (RBY x71 (J 153) (J 124)) x72) 0 5 0 (u73 13 56).toInt.toNat)) ∧ (0 ≤ (u73 13 56).toInt) := hp73
                have hW : WB g A s.heap H locs ((hv (hv J [164] [] Gl67) [] [(13, 56), (13, 57), (13, 58), (13, 59), (13, 60)] u73), L, I, P, E, N) (sgM g) := hW
                have hGT := hf73_0
                have hin : vp_in a0 2 := tin rfl (by omega)
                refine rs_163 C hW (mm_ rfl) hin dX12_asBefore_135 (fun H locs hW => ?_)
                have hTV : TVL (J 121) (J 124) x1.toNatClampNeg (LTR (J 154)) r73 := tvl_k (by have h8 := tcl x1; omega) e72 hGT
                refine lv_aload_n hx hb dX12_asBefore_136 rfl (lv_at hl 3 rfl) ?_
                refine rg_13_62 C hW (mm_ rfl) tw_1085 dX12_asBefore_137 ?_
                refine lv_iload_n hx hb dX12_asBefore_140 rfl (lv_at hl 4 rfl) ?_
                refine lv_iload_n hx hb dX12_asBefore_141 rfl (lv_at hl 2 rfl) ?_
                have hin : vp_in a0 2 := tin rfl (by omega)
                refine rs_162 C hW (mm_ rfl) hin dX12_asBefore_142 (fun H locs hW => ?_)
                refine lv_aload_n hx hb dX12_asBefore_143 rfl (lv_at hl 3 rfl) ?_
                refine rg_13_63 C hW (mm_ rfl) tw_1086 dX12_asBefore_144 ?_
                refine lv_iload_n hx hb dX12_asBefore_147 rfl (lv_at hl 4 rfl) ?_
                have hin : vp_in a0 2 := tin rfl (by omega)
                refine ra_163 C hW (mm_ rfl) hin dX12_asBefore_148 ?_
                refine lv_topi (fun x74 (e74 : x74 = (up2 J 163 a0.toNatClampNeg r73) 163 a0.toNatClampNeg) => ?_)
                have hTVr : TVL (J 121) (J 124) x1.toNatClampNeg (LTR (J 154)) x74 := by rw [e74, up2_s]; exact hTV
                have hWr : WB g A s.heap H locs (hv J [162, 163, 164] [(13, 56), (13, 57), (13, 58), (13, 59), (13, 60)] (up2 (up2 (hv (hv J [164] [] Gl67) [] [(13, 56), (13, 57), (13, 58), (13, 59), (13, 60)] u73) 163 a0.toNatClampNeg r73) 162 a0.toNatClampNeg x1), L, I, P, E, N) (sgM g) := by
                  rw [← ag_hvE (J := J) (R := [162, 163, 164]) (F := [(13, 56), (13, 57), (13, 58), (13, 59), (13, 60)]) (ag_up (Or.inl rfl) (ag_up (Or.inl rfl) (ag_hv rfl rfl (ag_hv rfl rfl ag_rf))))]
                  exact hW
                subst hQ9
                exact end_i C hr hlocks (up2 (up2 (hv (hv J [164] [] Gl67) [] [(13, 56), (13, 57), (13, 58), (13, 59), (13, 60)] u73) 163 a0.toNatClampNeg r73) 162 a0.toNatClampNeg x1) hWr ⟨show (J 161 a0.toNatClampNeg).toInt < 0 → x74.toInt = 0 from by (intro h9; exfalso; omega), show ∀ k : Nat, (J 161 a0.toNatClampNeg).toInt = (k : Int) → TVL (J 121) (J 124) k (LTR (J 154)) x74 from by (intro k h9; have e9 : k = x1.toNatClampNeg := (by have h8 := tcl x1; omega); rw [e9]; exact hTVr), show CAH (J 121) (J 124) ((up2 J 162 a0.toNatClampNeg x1) 162) ((up2 J 163 a0.toNatClampNeg r73) 163) (Gl67 164) a0.toNatClampNeg from by (exact cah_y (k := x1.toNatClampNeg) (y := J 154) (by rw [up2_s]; have h8 := tcl x1; omega) (by rw [up2_s]; exact hTV) (fun i hi => (hll _).2 i (by have h8 := tcl a0; omega) (by omega))), show ∀ q : Nat, q ≤ 1 → q ≠ a0.toNatClampNeg → CAH (J 121) (J 124) (J 162) (J 163) (J 164) q → CAH (J 121) (J 124) ((up2 J 162 a0.toNatClampNeg x1) 162) ((up2 J 163 a0.toNatClampNeg r73) 163) (Gl67 164) q from by (intro q h1 h2 h3; exact cah_o h3 (up2_f _ _ _ h2) (up2_f _ _ _ h2) (fun i hi => (hll _).1 (by have h8 := tcl a0; omega)))⟩ dX12_asBefore_149
            · have c68 : m4.toInt < 7 := tnle kp7 rfl c68
              refine lv_iload_n hx hb dX12_asBefore_49 rfl (lv_at hl 1 rfl) ?_
              refine lv_if_eq (tgt := 82) hx hb dX12_asBefore_50 (by decide) (fun c75 => ?_) (fun c75 => ?_)
              · have c75 : m3.toInt = 0 := teq rfl kp0 c75
                refine lv_iconst (v := 0) hx hb dX12_asBefore_82 (by decide) ?_
                refine lv_istore_n (lv' := [(3, .int 0), (4, .int m4), (2, .int x1), (0, .ref (g.2.2.1 13)), (1, .int a0)]) hx hb dX12_asBefore_83 rfl hl (by decide) rfl (fun ls hl => ?_)
                refine lv_aload_n hx hb dX12_asBefore_84 rfl (lv_at hl 3 rfl) ?_
                refine rg_13_64 C hW (mm_ rfl) tw_1087 dX12_asBefore_85 ?_
                refine lv_bipush (v := 7) hx hb dX12_asBefore_88 (by decide) ?_
                refine lv_iload_n hx hb dX12_asBefore_90 rfl (lv_at hl 4 rfl) ?_
                refine lv_imul hx hb dX12_asBefore_91 ?_
                refine lv_topi (fun x76 (e76 : x76 = 7 * a0) => ?_)
                try have t76 : x76.toInt = 7 * a0.toInt := tmul e76 kp7 rfl (by omega)
                refine lv_iload hx hb dX12_asBefore_92 (lv_at hl 1 rfl) ?_
                refine lv_iadd hx hb dX12_asBefore_94 ?_
                refine lv_topi (fun x77 (e77 : x77 = x76 + m4) => ?_)
                try have t77 : x77.toInt = x76.toInt + m4.toInt := tadd e77 rfl rfl (by omega)
                refine lv_aload_n hx hb dX12_asBefore_95 rfl (lv_at hl 3 rfl) ?_
                refine rg_13_54 C hW (mm_ rfl) tw_1077 dX12_asBefore_96 ?_
                refine lv_iload hx hb dX12_asBefore_99 (lv_at hl 1 rfl) ?_
                refine ci_ C hW (runS (As := [.int m4]) (rest := [.ref (g.2.2.1 154), .int x77, .ref (g.2.2.1 164)]) (T := (((hv J [164] [] Gl67), L, I, P, E, N), sgM g)) C hW (c_X12_letterOf_a l g (hv J [164] [] Gl67) L I P E N H.size m4 ) mi_X12_letterOf tw_1449 ⟨rfl, rfl, Nat.le_of_ble_eq_true rfl, Nat.le_of_ble_eq_true rfl⟩ rfl hl.1 rfl (Nat.le_of_ble_eq_true rfl) dX12_asBefore_101 ⟨Nat.le_of_ble_eq_true rfl, Nat.le_of_ble_eq_true rfl⟩) (fun r78 u78 H locs hp78 hW => ?_)
                obtain ⟨hf78_0, hf78_1⟩ : (0 ≤ r78.toInt ∧ r78.toInt < 128) ∧ ((m4.toInt = 0 → r78.toInt = 107) ∧ (m4.toInt = 1 → r78.toInt = 104) ∧ (m4.toInt = 2 → r78.toInt = 118) ∧ (m4.toInt = 3 → r78.toInt = 115) ∧ (m4.toInt = 4 → r78.toInt = 109) ∧ (m4.toInt = 5 → r78.toInt = 119) ∧ (6 ≤ m4.toInt → r78.toInt = 110)) := hp78
                have hW : WB g A s.heap H locs ((hv J [164] [] Gl67), L, I, P, E, N) (sgM g) := hW
                have hLO2 := hid_i hf78_1
                clear hf78_1
                have hin : vp_in r78 128 := tin rfl (by omega)
                refine ra_154 C hW (mm_ rfl) hin dX12_asBefore_104 ?_
                refine lv_topi (fun x79 (e79 : x79 = J 154 r78.toNatClampNeg) => ?_)
                have t79 : x79.toInt = (J 154 r78.toNatClampNeg).toInt := by rw [e79]
                have hin : vp_in x77 14 := tin rfl (by omega)
                refine rs_164 C hW (mm_ rfl) hin dX12_asBefore_105 (fun H locs hW => ?_)
                obtain ⟨x80, e80⟩ : ∃ y : Int32, y = m4 + 1 := ⟨_, rfl⟩
                refine lv_iinc (v := x80) (lv' := [(4, .int x80), (3, .int 0), (2, .int x1), (0, .ref (g.2.2.1 13)), (1, .int a0)]) hx hb dX12_asBefore_106 hl (k := 1) rfl (by rw [e80]; rfl) (by decide) rfl (fun ls hl => ?_)
                try have t80 : x80.toInt = m4.toInt + 1 := tadd e80 rfl kp1 (by omega)
                refine lv_goto (tgt := 42) hx hb dX12_asBefore_109 (by decide) ?_
                have hWl : WB g A s.heap H locs ((hv J [164] [] (up2 (hv J [164] [] Gl67) 164 x77.toNatClampNeg x79)), L, I, P, E, N) (sgM g) := by
                  rw [← ag_hvE (J := J) (R := [164]) (F := []) (ag_up (Or.inl rfl) (ag_hv rfl rfl ag_rf))]
                  exact hW
                refine ih 0 x80 (up2 (hv J [164] [] Gl67) 164 x77.toNatClampNeg x79) H locs ls ?_ ?_ ?_ ?_ hWl (lv_sub hl [0, 1, 2, 3, 4] rfl)
                · show (7 - x80.toInt).toNat < n
                  omega
                · show 0 ≤ x80.toInt ∧ x80.toInt ≤ 7 ∧ ((0 : Int32).toInt = 0 ∨ (0 : Int32).toInt = 1)
                  first | exact ⟨by omega, by omega, Or.inr kp1⟩ | exact ⟨by omega, by omega, Or.inl kp0⟩
                · show (0 : Int32).toInt = 1 → (J 162 a0.toNatClampNeg).toInt = x1.toInt ∧ (∀ i : Nat, (i : Int) < (J 121 x1.toNatClampNeg).toInt → ¬ (J 124 (60 * x1.toNatClampNeg + i)).toInt = 97) ∧ SML (J 164) (J 154) a0.toInt x80.toInt
                  (intro h9; exfalso; exact absurd h9 (by decide))
                · show LLR (J 164) ((up2 Gl67 164 x77.toNatClampNeg x79) 164) (J 154) a0.toInt x80.toInt
                  exact llr_s hll rfl (u := x77) (by omega) (by omega) (by omega) (by omega) (e79.trans (congrArg (J 154) (li_of (hid_o hLO2) (by omega))))
              · have c75 : ¬ m3.toInt = 0 := tne rfl kp0 c75
                refine lv_aload_n hx hb dX12_asBefore_53 rfl (lv_at hl 3 rfl) ?_
                refine rg_13_64 C hW (mm_ rfl) tw_1087 dX12_asBefore_54 ?_
                refine lv_bipush (v := 7) hx hb dX12_asBefore_57 (by decide) ?_
                refine lv_iload_n hx hb dX12_asBefore_59 rfl (lv_at hl 4 rfl) ?_
                refine lv_imul hx hb dX12_asBefore_60 ?_
                refine lv_topi (fun x81 (e81 : x81 = 7 * a0) => ?_)
                try have t81 : x81.toInt = 7 * a0.toInt := tmul e81 kp7 rfl (by omega)
                refine lv_iload hx hb dX12_asBefore_61 (lv_at hl 0 rfl) ?_
                refine lv_iadd hx hb dX12_asBefore_63 ?_
                refine lv_topi (fun x82 (e82 : x82 = x81 + m4) => ?_)
                try have t82 : x82.toInt = x81.toInt + m4.toInt := tadd e82 rfl rfl (by omega)
                have hin : vp_in x82 14 := tin rfl (by omega)
                refine ra_164 C hW (mm_ rfl) hin dX12_asBefore_64 ?_
                refine lv_topi (fun x83 (e83 : x83 = Gl67 164 x82.toNatClampNeg) => ?_)
                have t83 : x83.toInt = (Gl67 164 x82.toNatClampNeg).toInt := by rw [e83]
                refine lv_aload_n hx hb dX12_asBefore_65 rfl (lv_at hl 3 rfl) ?_
                refine rg_13_54 C hW (mm_ rfl) tw_1077 dX12_asBefore_66 ?_
                refine lv_iload hx hb dX12_asBefore_69 (lv_at hl 0 rfl) ?_
                refine ci_ C hW (runS (As := [.int m4]) (rest := [.ref (g.2.2.1 154), .int x83]) (T := (((hv J [164] [] Gl67), L, I, P, E, N), sgM g)) C hW (c_X12_letterOf_a l g (hv J [164] [] Gl67) L I P E N H.size m4 ) mi_X12_letterOf tw_1449 ⟨rfl, rfl, Nat.le_of_ble_eq_true rfl, Nat.le_of_ble_eq_true rfl⟩ rfl hl.1 rfl (Nat.le_of_ble_eq_true rfl) dX12_asBefore_71 ⟨Nat.le_of_ble_eq_true rfl, Nat.le_of_ble_eq_true rfl⟩) (fun r84 u84 H locs hp84 hW => ?_)
                obtain ⟨hf84_0, hf84_1⟩ : (0 ≤ r84.toInt ∧ r84.toInt < 128) ∧ ((m4.toInt = 0 → r84.toInt = 107) ∧ (m4.toInt = 1 → r84.toInt = 104) ∧ (m4.toInt = 2 → r84.toInt = 118) ∧ (m4.toInt = 3 → r84.toInt = 115) ∧ (m4.toInt = 4 → r84.toInt = 109) ∧ (m4.toInt = 5 → r84.toInt = 119) ∧ (6 ≤ m4.toInt → r84.toInt = 110)) := hp84
                have hW : WB g A s.heap H locs ((hv J [164] [] Gl67), L, I, P, E, N) (sgM g) := hW
                have hLO := hid_i hf84_1
                clear hf84_1
                have hin : vp_in r84 128 := tin rfl (by omega)
                refine ra_154 C hW (mm_ rfl) hin dX12_asBefore_74 ?_
                refine lv_topi (fun x85 (e85 : x85 = J 154 r84.toNatClampNeg) => ?_)
                have t85 : x85.toInt = (J 154 r84.toNatClampNeg).toInt := by rw [e85]
                refine lv_icmp_ne (tgt := 82) hx hb dX12_asBefore_75 (by decide) (fun c86 => ?_) (fun c86 => ?_)
                · have c86 : ¬ x83.toInt = x85.toInt := tne rfl rfl c86
                  refine lv_iconst (v := 0) hx hb dX12_asBefore_82 (by decide) ?_
                  refine lv_istore_n (lv' := [(3, .int 0), (4, .int m4), (2, .int x1), (0, .ref (g.2.2.1 13)), (1, .int a0)]) hx hb dX12_asBefore_83 rfl hl (by decide) rfl (fun ls hl => ?_)
                  refine lv_aload_n hx hb dX12_asBefore_84 rfl (lv_at hl 3 rfl) ?_
                  refine rg_13_64 C hW (mm_ rfl) tw_1087 dX12_asBefore_85 ?_
                  refine lv_bipush (v := 7) hx hb dX12_asBefore_88 (by decide) ?_
                  refine lv_iload_n hx hb dX12_asBefore_90 rfl (lv_at hl 4 rfl) ?_
                  refine lv_imul hx hb dX12_asBefore_91 ?_
                  refine lv_topi (fun x87 (e87 : x87 = 7 * a0) => ?_)
                  try have t87 : x87.toInt = 7 * a0.toInt := tmul e87 kp7 rfl (by omega)
                  refine lv_iload hx hb dX12_asBefore_92 (lv_at hl 1 rfl) ?_
                  refine lv_iadd hx hb dX12_asBefore_94 ?_
                  refine lv_topi (fun x88 (e88 : x88 = x87 + m4) => ?_)
                  try have t88 : x88.toInt = x87.toInt + m4.toInt := tadd e88 rfl rfl (by omega)
                  refine lv_aload_n hx hb dX12_asBefore_95 rfl (lv_at hl 3 rfl) ?_
                  refine rg_13_54 C hW (mm_ rfl) tw_1077 dX12_asBefore_96 ?_
                  refine lv_iload hx hb dX12_asBefore_99 (lv_at hl 1 rfl) ?_
                  refine ci_ C hW (runS (As := [.int m4]) (rest := [.ref (g.2.2.1 154), .int x88, .ref (g.2.2.1 164)]) (T := (((hv J [164] [] Gl67), L, I, P, E, N), sgM g)) C hW (c_X12_letterOf_a l g (hv J [164] [] Gl67) L I P E N H.size m4 ) mi_X12_letterOf tw_1449 ⟨rfl, rfl, Nat.le_of_ble_eq_true rfl, Nat.le_of_ble_eq_true rfl⟩ rfl hl.1 rfl (Nat.le_of_ble_eq_true rfl) dX12_asBefore_101 ⟨Nat.le_of_ble_eq_true rfl, Nat.le_of_ble_eq_true rfl⟩) (fun r89 u89 H locs hp89 hW => ?_)
                  obtain ⟨hf89_0, hf89_1⟩ : (0 ≤ r89.toInt ∧ r89.toInt < 128) ∧ ((m4.toInt = 0 → r89.toInt = 107) ∧ (m4.toInt = 1 → r89.toInt = 104) ∧ (m4.toInt = 2 → r89.toInt = 118) ∧ (m4.toInt = 3 → r89.toInt = 115) ∧ (m4.toInt = 4 → r89.toInt = 109) ∧ (m4.toInt = 5 → r89.toInt = 119) ∧ (6 ≤ m4.toInt → r89.toInt = 110)) := hp89
                  have hW : WB g A s.heap H locs ((hv J [164] [] Gl67), L, I, P, E, N) (sgM g) := hW
                  have hLO2 := hid_i hf89_1
                  clear hf89_1
                  have hin : vp_in r89 128 := tin rfl (by omega)
                  refine ra_154 C hW (mm_ rfl) hin dX12_asBefore_104 ?_
                  refine lv_topi (fun x90 (e90 : x90 = J 154 r89.toNatClampNeg) => ?_)
                  have t90 : x90.toInt = (J 154 r89.toNatClampNeg).toInt := by rw [e90]
                  have hin : vp_in x88 14 := tin rfl (by omega)
                  refine rs_164 C hW (mm_ rfl) hin dX12_asBefore_105 (fun H locs hW => ?_)
                  obtain ⟨x91, e91⟩ : ∃ y : Int32, y = m4 + 1 := ⟨_, rfl⟩
                  refine lv_iinc (v := x91) (lv' := [(4, .int x91), (3, .int 0), (2, .int x1), (0, .ref (g.2.2.1 13)), (1, .int a0)]) hx hb dX12_asBefore_106 hl (k := 1) rfl (by rw [e91]; rfl) (by decide) rfl (fun ls hl => ?_)
                  try have t91 : x91.toInt = m4.toInt + 1 := tadd e91 rfl kp1 (by omega)
                  refine lv_goto (tgt := 42) hx hb dX12_asBefore_109 (by decide) ?_
                  have hWl : WB g A s.heap H locs ((hv J [164] [] (up2 (hv J [164] [] Gl67) 164 x88.toNatClampNeg x90)), L, I, P, E, N) (sgM g) := by
                    rw [← ag_hvE (J := J) (R := [164]) (F := []) (ag_up (Or.inl rfl) (ag_hv rfl rfl ag_rf))]
                    exact hW
                  refine ih 0 x91 (up2 (hv J [164] [] Gl67) 164 x88.toNatClampNeg x90) H locs ls ?_ ?_ ?_ ?_ hWl (lv_sub hl [0, 1, 2, 3, 4] rfl)
                  · show (7 - x91.toInt).toNat < n
                    omega
                  · show 0 ≤ x91.toInt ∧ x91.toInt ≤ 7 ∧ ((0 : Int32).toInt = 0 ∨ (0 : Int32).toInt = 1)
                    first | exact ⟨by omega, by omega, Or.inr kp1⟩ | exact ⟨by omega, by omega, Or.inl kp0⟩
                  · show (0 : Int32).toInt = 1 → (J 162 a0.toNatClampNeg).toInt = x1.toInt ∧ (∀ i : Nat, (i : Int) < (J 121 x1.toNatClampNeg).toInt → ¬ (J 124 (60 * x1.toNatClampNeg + i)).toInt = 97) ∧ SML (J 164) (J 154) a0.toInt x91.toInt
                    (intro h9; exfalso; exact absurd h9 (by decide))
                  · show LLR (J 164) ((up2 Gl67 164 x88.toNatClampNeg x90) 164) (J 154) a0.toInt x91.toInt
                    exact llr_s hll rfl (u := x88) (by omega) (by omega) (by omega) (by omega) (e90.trans (congrArg (J 154) (li_of (hid_o hLO2) (by omega))))
                · have c86 : x83.toInt = x85.toInt := teq rfl rfl c86
                  refine lv_iconst (v := 1) hx hb dX12_asBefore_78 (by decide) ?_
                  refine lv_goto (tgt := 83) hx hb dX12_asBefore_79 (by decide) ?_
                  refine lv_istore_n (lv' := [(3, .int 1), (4, .int m4), (2, .int x1), (0, .ref (g.2.2.1 13)), (1, .int a0)]) hx hb dX12_asBefore_83 rfl hl (by decide) rfl (fun ls hl => ?_)
                  refine lv_aload_n hx hb dX12_asBefore_84 rfl (lv_at hl 3 rfl) ?_
                  refine rg_13_64 C hW (mm_ rfl) tw_1087 dX12_asBefore_85 ?_
                  refine lv_bipush (v := 7) hx hb dX12_asBefore_88 (by decide) ?_
                  refine lv_iload_n hx hb dX12_asBefore_90 rfl (lv_at hl 4 rfl) ?_
                  refine lv_imul hx hb dX12_asBefore_91 ?_
                  refine lv_topi (fun x92 (e92 : x92 = 7 * a0) => ?_)
                  try have t92 : x92.toInt = 7 * a0.toInt := tmul e92 kp7 rfl (by omega)
                  refine lv_iload hx hb dX12_asBefore_92 (lv_at hl 1 rfl) ?_
                  refine lv_iadd hx hb dX12_asBefore_94 ?_
                  refine lv_topi (fun x93 (e93 : x93 = x92 + m4) => ?_)
                  try have t93 : x93.toInt = x92.toInt + m4.toInt := tadd e93 rfl rfl (by omega)
                  refine lv_aload_n hx hb dX12_asBefore_95 rfl (lv_at hl 3 rfl) ?_
                  refine rg_13_54 C hW (mm_ rfl) tw_1077 dX12_asBefore_96 ?_
                  refine lv_iload hx hb dX12_asBefore_99 (lv_at hl 1 rfl) ?_
                  refine ci_ C hW (runS (As := [.int m4]) (rest := [.ref (g.2.2.1 154), .int x93, .ref (g.2.2.1 164)]) (T := (((hv J [164] [] Gl67), L, I, P, E, N), sgM g)) C hW (c_X12_letterOf_a l g (hv J [164] [] Gl67) L I P E N H.size m4 ) mi_X12_letterOf tw_1449 ⟨rfl, rfl, Nat.le_of_ble_eq_true rfl, Nat.le_of_ble_eq_true rfl⟩ rfl hl.1 rfl (Nat.le_of_ble_eq_true rfl) dX12_asBefore_101 ⟨Nat.le_of_ble_eq_true rfl, Nat.le_of_ble_eq_true rfl⟩) (fun r94 u94 H locs hp94 hW => ?_)
                  obtain ⟨hf94_0, hf94_1⟩ : (0 ≤ r94.toInt ∧ r94.toInt < 128) ∧ ((m4.toInt = 0 → r94.toInt = 107) ∧ (m4.toInt = 1 → r94.toInt = 104) ∧ (m4.toInt = 2 → r94.toInt = 118) ∧ (m4.toInt = 3 → r94.toInt = 115) ∧ (m4.toInt = 4 → r94.toInt = 109) ∧ (m4.toInt = 5 → r94.toInt = 119) ∧ (6 ≤ m4.toInt → r94.toInt = 110)) := hp94
                  have hW : WB g A s.heap H locs ((hv J [164] [] Gl67), L, I, P, E, N) (sgM g) := hW
                  have hLO2 := hid_i hf94_1
                  clear hf94_1
                  have hin : vp_in r94 128 := tin rfl (by omega)
                  refine ra_154 C hW (mm_ rfl) hin dX12_asBefore_104 ?_
                  refine lv_topi (fun x95 (e95 : x95 = J 154 r94.toNatClampNeg) => ?_)
                  have t95 : x95.toInt = (J 154 r94.toNatClampNeg).toInt := by rw [e95]
                  have hin : vp_in x93 14 := tin rfl (by omega)
                  refine rs_164 C hW (mm_ rfl) hin dX12_asBefore_105 (fun H locs hW => ?_)
                  obtain ⟨x96, e96⟩ : ∃ y : Int32, y = m4 + 1 := ⟨_, rfl⟩
                  refine lv_iinc (v := x96) (lv' := [(4, .int x96), (3, .int 1), (2, .int x1), (0, .ref (g.2.2.1 13)), (1, .int a0)]) hx hb dX12_asBefore_106 hl (k := 1) rfl (by rw [e96]; rfl) (by decide) rfl (fun ls hl => ?_)
                  try have t96 : x96.toInt = m4.toInt + 1 := tadd e96 rfl kp1 (by omega)
                  refine lv_goto (tgt := 42) hx hb dX12_asBefore_109 (by decide) ?_
                  have hWl : WB g A s.heap H locs ((hv J [164] [] (up2 (hv J [164] [] Gl67) 164 x93.toNatClampNeg x95)), L, I, P, E, N) (sgM g) := by
                    rw [← ag_hvE (J := J) (R := [164]) (F := []) (ag_up (Or.inl rfl) (ag_hv rfl rfl ag_rf))]
                    exact hW
                  refine ih 1 x96 (up2 (hv J [164] [] Gl67) 164 x93.toNatClampNeg x95) H locs ls ?_ ?_ ?_ ?_ hWl (lv_sub hl [0, 1, 2, 3, 4] rfl)
                  · show (7 - x96.toInt).toNat < n
                    omega
                  · show 0 ≤ x96.toInt ∧ x96.toInt ≤ 7 ∧ ((1 : Int32).toInt = 0 ∨ (1 : Int32).toInt = 1)
                    first | exact ⟨by omega, by omega, Or.inr kp1⟩ | exact ⟨by omega, by omega, Or.inl kp0⟩
                  · show (1 : Int32).toInt = 1 → (J 162 a0.toNatClampNeg).toInt = x1.toInt ∧ (∀ i : Nat, (i : Int) < (J 121 x1.toNatClampNeg).toInt → ¬ (J 124 (60 * x1.toNatClampNeg + i)).toInt = 97) ∧ SML (J 164) (J 154) a0.toInt x96.toInt
                    (intro h9; obtain ⟨y1, y2, y3⟩ := hsa (by omega); exact ⟨y1, y2, sml_s y3 hll (u := x82) (by omega) (by omega) (by omega) (by omega) (li_of (hid_o hLO) (by omega)) (by rw [← e83, ← e85]; omega)⟩)
                  · show LLR (J 164) ((up2 Gl67 164 x93.toNatClampNeg x95) 164) (J 154) a0.toInt x96.toInt
                    exact llr_s hll rfl (u := x93) (by omega) (by omega) (by omega) (by omega) (e95.trans (congrArg (J 154) (li_of (hid_o hLO2) (by omega))))
        -- into the loop
        have hWl : WB g A s.heap H locs ((hv J [164] [] J), L, I, P, E, N) (sgM g) := by
          rw [← ag_hvE (J := J) (R := [164]) (F := []) ag_rf]
          exact hW
        refine loop42 ((7 - (0 : Int32).toInt).toNat + 1) 1 0 J H locs ls ?_ ?_ ?_ ?_ hWl (lv_sub hl [0, 1, 2, 3, 4] rfl)
        · exact Nat.lt_succ_self _
        · show 0 ≤ (0 : Int32).toInt ∧ (0 : Int32).toInt ≤ 7 ∧ ((1 : Int32).toInt = 0 ∨ (1 : Int32).toInt = 1)
          try rw [kp1]
          try rw [kp0]
          first | omega | exact ⟨by omega, by omega, Or.inr rfl⟩ | exact ⟨by omega, by omega, Or.inl rfl⟩
        · show (1 : Int32).toInt = 1 → (J 162 a0.toNatClampNeg).toInt = x1.toInt ∧ (∀ i : Nat, (i : Int) < (J 121 x1.toNatClampNeg).toInt → ¬ (J 124 (60 * x1.toNatClampNeg + i)).toInt = 97) ∧ SML (J 164) (J 154) a0.toInt (0 : Int32).toInt
          try rw [kp1]
          try rw [kp0]
          first | (intro h9; exact absurd h9 (by decide)) | (intro h9; exfalso; omega) | exact fun _ => ⟨by omega, hHA.elim (fun q => absurd q (by omega)) (fun q => q.2), fun q j h1 h2 => by omega⟩
        · show LLR (J 164) (J 164) (J 154) a0.toInt (0 : Int32).toInt
          try rw [kp1]
          try rw [kp0]
          exact llr_0 (by first | rfl | exact kp0)
  · have c2 : x1.toInt < 0 := tnle kp0 rfl c2
    refine lv_iconst (v := 0) hx hb dX12_asBefore_11 (by decide) ?_
    have hWr : WB g A s.heap H locs (hv J [162, 163, 164] [(13, 56), (13, 57), (13, 58), (13, 59), (13, 60)] J, L, I, P, E, N) (sgM g) := by
      rw [← ag_hvE (J := J) (R := [162, 163, 164]) (F := [(13, 56), (13, 57), (13, 58), (13, 59), (13, 60)]) ag_rf]
      exact hW
    subst hQ9
    exact end_i C hr hlocks J hWr ⟨show (J 161 a0.toNatClampNeg).toInt < 0 → 0 = 0 from by exact fun _ => kp0, show ∀ k : Nat, (J 161 a0.toNatClampNeg).toInt = (k : Int) → TVL (J 121) (J 124) k (LTR (J 154)) 0 from by (intro k h9; exfalso; omega), show CAH (J 121) (J 124) (J 162) (J 163) (J 164) a0.toNatClampNeg from by exact hca, show ∀ q : Nat, q ≤ 1 → q ≠ a0.toNatClampNeg → CAH (J 121) (J 124) (J 162) (J 163) (J 164) q → CAH (J 121) (J 124) (J 162) (J 163) (J 164) q from by exact fun _ _ _ h => h⟩ dX12_asBefore_12
