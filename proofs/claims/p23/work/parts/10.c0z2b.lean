set_option maxHeartbeats 4000000 in
set_option maxRecDepth 100000 in
theorem c_X12_boosts_b (l : Launch) (g : gG) (J : Nat → Nat → Int32) (L : Nat → Nat → Int64) (I : Nat → Nat → Nat → Int32) (P : Nat → Nat → Nat → Option Nat) (E : Nat → Option Nat) (N : Nat → Nat) (sz : Nat) (a0 : Int32) (hwm : WM J) (hmz : ∀ k : Nat, J 104 k = 0) : Met l yX12_boosts (WS yX12_boosts cX12_boosts 7 (some .int)) (RM (4) 0 0) (PC g [.ref (g.2.2.1 13), .int a0] ((J, L, I, P, E, N), sgM g) sz) (va_Qi (fun (r : Int32) (u : (Nat → Nat → Int32)) => ((r.toInt = (-4) ∧ (a0.toInt < 1)) ∨ (r.toInt = (-6) ∧ (999 < a0.toInt)) ∨ (r = r ∧ (1 ≤ a0.toInt ∧ a0.toInt ≤ 999) ∧ (r.toInt = (BSF (fun t => (∃ y : Nat → Int32, SND y (J 101) (J 102) (J 103) (EXS (J 125) (J 126) (Int32.ofNat t) (J 13 41).toInt.toNat) (fun k => 0 ≤ (-1 : Int32).toInt ∧ CUTP (J 105) (J 106) (J 107) (J 13 34).toInt (-1 : Int32).toInt k) a0 (J 13 33) (J 13 32).toInt ∧ HALM y (J 109) (J 108) (J 13 36) (J 13 35).toInt)) (fun t => CB t 32) (fun t => (t : Int)) (2 ^ (J 13 41).toInt.toNat)).1))) ∧ ((∀ k : Nat, J 104 k = 0) → ∀ k : Nat, u 104 k = 0)) (fun u t => at_ g (FR g ((J, L, I, P, E, N), sgM g) sz) ((hv J [100, 104, 146] [] u, L, I, P, E, N), sgM g) t) (FR g ((J, L, I, P, E, N), sgM g) sz)) 0 0 (FR g ((J, L, I, P, E, N), sgM g) sz) := by
  refine ent (by decide +kernel) (Nat.le_of_ble_eq_true rfl) ?_
  intro p e s m below meth c ls hsz C hW hr hlocks hname hl
  generalize FR g ((J, L, I, P, E, N), sgM g) sz = A at C hW ⊢
  generalize hQ9 : (va_Qi (fun (r : Int32) (u : (Nat → Nat → Int32)) => ((r.toInt = (-4) ∧ (a0.toInt < 1)) ∨ (r.toInt = (-6) ∧ (999 < a0.toInt)) ∨ (r = r ∧ (1 ≤ a0.toInt ∧ a0.toInt ≤ 999) ∧ (r.toInt = (BSF (fun t => (∃ y : Nat → Int32, SND y (J 101) (J 102) (J 103) (EXS (J 125) (J 126) (Int32.ofNat t) (J 13 41).toInt.toNat) (fun k => 0 ≤ (-1 : Int32).toInt ∧ CUTP (J 105) (J 106) (J 107) (J 13 34).toInt (-1 : Int32).toInt k) a0 (J 13 33) (J 13 32).toInt ∧ HALM y (J 109) (J 108) (J 13 36) (J 13 35).toInt)) (fun t => CB t 32) (fun t => (t : Int)) (2 ^ (J 13 41).toInt.toNat)).1))) ∧ ((∀ k : Nat, J 104 k = 0) → ∀ k : Nat, u 104 k = 0)) (fun u t => at_ g A ((hv J [100, 104, 146] [] u, L, I, P, E, N), sgM g) t) A) = Q9
  have hx := C.1.1
  have hb := C.1.2.1
  have hts := C.1.2.2.2.2
  have hW : WB g A s.heap s.heap [] (J, L, I, P, E, N) (sgM g) := hW
  have hl : lv_has ls 7 [(0, .ref (g.2.2.1 13)), (1, .int a0)] := hl
  obtain ⟨H, hH⟩ : ∃ H : Heap, H = s.heap := ⟨_, rfl⟩
  obtain ⟨locs, hlocs⟩ : ∃ q : List Loc, q = [] := ⟨_, rfl⟩
  have hW : WB g A s.heap H locs (J, L, I, P, E, N) (sgM g) := by rw [hH, hlocs]; exact hW
  obtain ⟨⟨hnd1, hnd2, hon, hhm1, hhm2, hhN, hcu1, hcu2, hco1, hco2, hcN⟩, ⟨hrd1, hrd2⟩, ⟨hnw1, hnw2, hns1, hns2, hof⟩, ⟨htm1, htm2, hts_⟩, ⟨had1, had2, hrw1, hrw2, htp1, htp2⟩⟩ := id hwm
  refine start_ hH hlocs ?_
  refine lv_iload_n hx hb dX12_boosts_0 rfl (lv_at hl 1 rfl) ?_
  refine lv_iconst (v := 1) hx hb dX12_boosts_1 (by decide) ?_
  refine lv_sipush (v := 999) hx hb dX12_boosts_2 (by decide) ?_
  refine ci_ C hW (runS (As := [.int a0, .int 1, .int 999]) (rest := []) (T := ((J, L, I, P, E, N), sgM g)) C hW (c_X12_within l g J L I P E N H.size a0 1 999 ) mi_X12_within tw_1258 ⟨rfl, rfl, Nat.le_of_ble_eq_true rfl, Nat.le_of_ble_eq_true rfl⟩ rfl hl.1 rfl (Nat.le_of_ble_eq_true rfl) dX12_boosts_5 ⟨Nat.le_of_ble_eq_true rfl, Nat.le_of_ble_eq_true rfl⟩) (fun r1 u1 H locs hp1 hW => ?_)
  have hc1 : ((r1.toInt = (-4) ∧ (a0.toInt < 1)) ∨ (r1.toInt = (-6) ∧ (1 ≤ a0.toInt ∧ 999 < a0.toInt)) ∨ (r1.toInt = 0 ∧ (1 ≤ a0.toInt ∧ a0.toInt ≤ 999))) := hp1
  clear hp1
  have hW : WB g A s.heap H locs (J, L, I, P, E, N) (sgM g) := hW
  refine lv_istore_n (lv' := [(2, .int r1), (0, .ref (g.2.2.1 13)), (1, .int a0)]) hx hb dX12_boosts_8 rfl hl (by decide) rfl (fun ls hl => ?_)
  refine lv_iload_n hx hb dX12_boosts_9 rfl (lv_at hl 0 rfl) ?_
  refine lv_if_eq (tgt := 19) hx hb dX12_boosts_10 (by decide) (fun c2 => ?_) (fun c2 => ?_)
  · have c2 : r1.toInt = 0 := teq rfl kp0 c2
    refine lv_bipush (v := (-9)) hx hb dX12_boosts_19 (by decide) ?_
    refine lv_istore_n (lv' := [(3, .int (-9)), (2, .int r1), (0, .ref (g.2.2.1 13)), (1, .int a0)]) hx hb dX12_boosts_21 rfl hl (by decide) rfl (fun ls hl => ?_)
    refine lv_iconst (v := 0) hx hb dX12_boosts_22 (by decide) ?_
    refine lv_istore (lv' := [(4, .int 0), (3, .int (-9)), (2, .int r1), (0, .ref (g.2.2.1 13)), (1, .int a0)]) hx hb dX12_boosts_23 hl (by decide) rfl (fun ls hl => ?_)
    have loop25 : ∀ (n : Nat) (m3 : Int32) (m4 : Int32) (Gl3 : Nat → Nat → Int32) (H : Heap) (locs : List Loc) (ls : Array Slot), (2000000 - m4.toInt).toNat < n → 0 ≤ m4.toInt ∧ m4.toInt ≤ ((2 ^ (J 13 41).toInt.toNat : Nat) : Int) → (∀ k : Nat, (∀ j : Nat, (j : Int) < (J 13 41).toInt → ¬ (J 125 j).toNatClampNeg = k) → Gl3 104 k = J 104 k) → (RBS m3 (BSF (fun t => (∃ y : Nat → Int32, SND y (J 101) (J 102) (J 103) (EXS (J 125) (J 126) (Int32.ofNat t) (J 13 41).toInt.toNat) (fun k => 0 ≤ (-1 : Int32).toInt ∧ CUTP (J 105) (J 106) (J 107) (J 13 34).toInt (-1 : Int32).toInt k) a0 (J 13 33) (J 13 32).toInt ∧ HALM y (J 109) (J 108) (J 13 36) (J 13 35).toInt)) (fun t => CB t 32) (fun t => (t : Int)) m4.toInt.toNat)) → WB g A s.heap H locs ((hv J [100, 104, 146] [] Gl3), L, I, P, E, N) (sgM g) → lv_has ls 7 [(4, .int m4), (3, .int m3), (2, .int r1), (0, .ref (g.2.2.1 13)), (1, .int a0)] → W p l e (RM (4) 0 0) s m ([.ref (g.2.2.1 13), .int a0] : List Value).toArray below meth c H locs 0 0 (MQ below Q9 ([.ref (g.2.2.1 13), .int a0] : List Value).toArray s 0 0 A) (F0 m 25 ls []) := by
      intro n
      induction n with
      | zero => intro m3 m4 Gl3 H locs ls hmeas; exact absurd hmeas (Nat.not_lt_zero _)
      | succ n ih =>
        intro m3 m4 Gl3 H locs ls hmeas hi hf2 hbs hW hl
        refine lv_iload hx hb dX12_boosts_25 (lv_at hl 0 rfl) ?_
        refine lv_iconst (v := 1) hx hb dX12_boosts_27 (by decide) ?_
        refine lv_aload_n hx hb dX12_boosts_28 rfl (lv_at hl 3 rfl) ?_
        refine rg_13_41 C hW (mm_ rfl) tw_1064 dX12_boosts_29 ?_
        refine lv_as (J 13 41) rfl ?_
        refine lv_ishl hx hb dX12_boosts_32 ?_
        refine lv_topi (fun x4 (e4 : x4 = 1 <<< ((J 13 41) &&& 31)) => ?_)
        have t4 := i32r x4
        have hP2 := shl_p (n := (J 13 41).toInt.toNat) (by omega) (by omega) e4
        have hpw9 := pow9 (c := (J 13 41).toInt.toNat) (by omega)
        refine lv_icmp_ge (tgt := 169) hx hb dX12_boosts_33 (by decide) (fun c5 => ?_) (fun c5 => ?_)
        · have c5 : x4.toInt ≤ m4.toInt := tle rfl rfl c5
          have hres : m3.toInt = (BSF (fun t => (∃ y : Nat → Int32, SND y (J 101) (J 102) (J 103) (EXS (J 125) (J 126) (Int32.ofNat t) (J 13 41).toInt.toNat) (fun k => 0 ≤ (-1 : Int32).toInt ∧ CUTP (J 105) (J 106) (J 107) (J 13 34).toInt (-1 : Int32).toInt k) a0 (J 13 33) (J 13 32).toInt ∧ HALM y (J 109) (J 108) (J 13 36) (J 13 35).toInt)) (fun t => CB t 32) (fun t => (t : Int)) (2 ^ (J 13 41).toInt.toNat)).1 := by (have e9 : m4.toInt.toNat = 2 ^ (J 13 41).toInt.toNat := (by omega); rw [e9] at hbs; exact rbs_r hbs)
          refine lv_iconst (v := 0) hx hb dX12_boosts_169 (by decide) ?_
          refine lv_istore (lv' := [(4, .int 0), (3, .int m3), (2, .int r1), (0, .ref (g.2.2.1 13)), (1, .int a0)]) hx hb dX12_boosts_170 hl (by decide) rfl (fun ls hl => ?_)
          have loop172 : ∀ (n172 : Nat) (m4 : Int32) (Gl6 : Nat → Nat → Int32) (H : Heap) (locs : List Loc) (ls : Array Slot), (9 - m4.toInt).toNat < n172 → 0 ≤ m4.toInt → (∀ k : Nat, (∀ j : Nat, (j : Int) < (J 13 41).toInt → ¬ (J 125 j).toNatClampNeg = k) → Gl6 104 k = J 104 k) → (∀ j : Nat, (j : Int) < m4.toInt → Gl6 104 (J 125 j).toNatClampNeg = 0) → WB g A s.heap H locs ((hv (hv J [100, 104, 146] [] Gl3) [104] [] Gl6), L, I, P, E, N) (sgM g) → lv_has ls 7 [(4, .int m4), (3, .int m3), (2, .int r1), (0, .ref (g.2.2.1 13)), (1, .int a0)] → W p l e (RM (4) 0 0) s m ([.ref (g.2.2.1 13), .int a0] : List Value).toArray below meth c H locs 0 0 (MQ below Q9 ([.ref (g.2.2.1 13), .int a0] : List Value).toArray s 0 0 A) (F0 m 172 ls []) := by
            intro n172
            induction n172 with
            | zero => intro m4 Gl6 H locs ls hmeas; exact absurd hmeas (Nat.not_lt_zero _)
            | succ n172 ih172 =>
              intro m4 Gl6 H locs ls hmeas hj hf4 hz4 hW hl
              refine lv_iload hx hb dX12_boosts_172 (lv_at hl 0 rfl) ?_
              refine lv_aload_n hx hb dX12_boosts_174 rfl (lv_at hl 3 rfl) ?_
              refine rg_13_41 C hW (mm_ rfl) tw_1064 dX12_boosts_175 ?_
              refine lv_as (J 13 41) rfl ?_
              refine lv_icmp_ge (tgt := 200) hx hb dX12_boosts_178 (by decide) (fun c7 => ?_) (fun c7 => ?_)
              · have c7 : (J 13 41).toInt ≤ m4.toInt := tle rfl rfl c7
                refine lv_iload_n hx hb dX12_boosts_200 rfl (lv_at hl 1 rfl) ?_
                have hWr : WB g A s.heap H locs (hv J [100, 104, 146] [] (hv (hv J [100, 104, 146] [] Gl3) [104] [] Gl6), L, I, P, E, N) (sgM g) := by
                  rw [← ag_hvE (J := J) (R := [100, 104, 146]) (F := []) (ag_hv rfl rfl (ag_hv rfl rfl ag_rf))]
                  exact hW
                subst hQ9
                exact end_i C hr hlocks (hv (hv J [100, 104, 146] [] Gl3) [104] [] Gl6) hWr ⟨by first | exact Or.inr (Or.inr (⟨by first | rfl | assumption, by omega, show (m3.toInt = (BSF (fun t => (∃ y : Nat → Int32, SND y (J 101) (J 102) (J 103) (EXS (J 125) (J 126) (Int32.ofNat t) (J 13 41).toInt.toNat) (fun k => 0 ≤ (-1 : Int32).toInt ∧ CUTP (J 105) (J 106) (J 107) (J 13 34).toInt (-1 : Int32).toInt k) a0 (J 13 33) (J 13 32).toInt ∧ HALM y (J 109) (J 108) (J 13 36) (J 13 35).toInt)) (fun t => CB t 32) (fun t => (t : Int)) (2 ^ (J 13 41).toInt.toNat)).1) from (by exact hres)⟩)), show (∀ k : Nat, J 104 k = 0) → ∀ k : Nat, Gl6 104 k = 0 from by first | exact fun h => h | exact fun h k => (by by_cases q : ∃ j : Nat, (j : Int) < (J 13 41).toInt ∧ (J 125 j).toNatClampNeg = k; obtain ⟨j, q1, q2⟩ := q; rw [← q2]; exact hz4 j (by omega); exact (hf4 k (fun j h1 h2 => q ⟨j, h1, h2⟩)).trans (h k))⟩ dX12_boosts_201
              · have c7 : m4.toInt < (J 13 41).toInt := tnle rfl rfl c7
                refine lv_aload_n hx hb dX12_boosts_181 rfl (lv_at hl 3 rfl) ?_
                refine rg_13_4 C hW (mm_ rfl) tw_1027 dX12_boosts_182 ?_
                refine lv_aload_n hx hb dX12_boosts_185 rfl (lv_at hl 3 rfl) ?_
                refine rg_13_25 C hW (mm_ rfl) tw_1048 dX12_boosts_186 ?_
                refine lv_iload hx hb dX12_boosts_189 (lv_at hl 0 rfl) ?_
                have hin : vp_in m4 9 := tin rfl (by omega)
                refine ra_125 C hW (mm_ rfl) hin dX12_boosts_191 ?_
                refine lv_topi (fun x8 (e8 : x8 = J 125 m4.toNatClampNeg) => ?_)
                have t8 : x8.toInt = (J 125 m4.toNatClampNeg).toInt := by rw [e8]
                have q8 := hcN m4.toNatClampNeg
                rw [← e8] at q8
                have k8 := tcl m4
                refine lv_iconst (v := 0) hx hb dX12_boosts_192 (by decide) ?_
                have hin : vp_in x8 20 := tin rfl (by omega)
                refine rs_104 C hW (mm_ rfl) hin dX12_boosts_193 (fun H locs hW => ?_)
                obtain ⟨x9, e9⟩ : ∃ y : Int32, y = m4 + 1 := ⟨_, rfl⟩
                refine lv_iinc (v := x9) (lv' := [(4, .int x9), (3, .int m3), (2, .int r1), (0, .ref (g.2.2.1 13)), (1, .int a0)]) hx hb dX12_boosts_194 hl (k := 0) rfl (by rw [e9]; rfl) (by decide) rfl (fun ls hl => ?_)
                try have t9 : x9.toInt = m4.toInt + 1 := tadd e9 rfl kp1 (by omega)
                refine lv_goto (tgt := 172) hx hb dX12_boosts_197 (by decide) ?_
                have hWl : WB g A s.heap H locs ((hv (hv J [100, 104, 146] [] Gl3) [104] [] (up2 (hv (hv J [100, 104, 146] [] Gl3) [104] [] Gl6) 104 x8.toNatClampNeg 0)), L, I, P, E, N) (sgM g) := by
                  rw [← ag_hvE (J := (hv J [100, 104, 146] [] Gl3)) (R := [104]) (F := []) (ag_up (Or.inl rfl) (ag_hv rfl rfl ag_rf))]
                  exact hW
                refine ih172 x9 (up2 (hv (hv J [100, 104, 146] [] Gl3) [104] [] Gl6) 104 x8.toNatClampNeg 0) H locs ls ?_ ?_ ?_ ?_ hWl (lv_sub hl [0, 1, 2, 3, 4] rfl)
                · show (9 - x9.toInt).toNat < n172
                  omega
                · show 0 ≤ x9.toInt
                  first | omega | exact hj | assumption
                · show ∀ k : Nat, (∀ j : Nat, (j : Int) < (J 13 41).toInt → ¬ (J 125 j).toNatClampNeg = k) → (up2 Gl6 104 x8.toNatClampNeg 0) 104 k = J 104 k
                  (intro k hk; exact (up2_f _ _ _ (fun q => hk m4.toNatClampNeg (by have h8 := tcl m4; omega) (by rw [← e8]; exact q.symm))).trans (hf4 k hk))
                · show ∀ j : Nat, (j : Int) < x9.toInt → (up2 Gl6 104 x8.toNatClampNeg 0) 104 (J 125 j).toNatClampNeg = 0
                  (intro j hj; by_cases q : (J 125 j).toNatClampNeg = x8.toNatClampNeg; rw [q]; exact up2_s _ _ _ _; exact (up2_f _ _ _ q).trans (hz4 j (by have h8 := tcl m4; have h7 : j ≠ m4.toNatClampNeg := (fun e => q (by rw [e, ← e8])); omega)))
          -- into the loop
          have hWl : WB g A s.heap H locs ((hv (hv J [100, 104, 146] [] Gl3) [104] [] (hv J [100, 104, 146] [] Gl3)), L, I, P, E, N) (sgM g) := by
            rw [← ag_hvE (J := (hv J [100, 104, 146] [] Gl3)) (R := [104]) (F := []) ag_rf]
            exact hW
          refine loop172 ((9 - (0 : Int32).toInt).toNat + 1) 0 (hv J [100, 104, 146] [] Gl3) H locs ls ?_ ?_ ?_ ?_ hWl (lv_sub hl [0, 1, 2, 3, 4] rfl)
          · exact Nat.lt_succ_self _
          · show 0 ≤ (0 : Int32).toInt
            try rw [kp0]
            first | omega | exact hj | assumption
          · show ∀ k : Nat, (∀ j : Nat, (j : Int) < (J 13 41).toInt → ¬ (J 125 j).toNatClampNeg = k) → Gl3 104 k = J 104 k
            try rw [kp0]
            exact hf2
          · show ∀ j : Nat, (j : Int) < (0 : Int32).toInt → Gl3 104 (J 125 j).toNatClampNeg = 0
            try rw [kp0]
            intro j hj; omega
        · have c5 : m4.toInt < x4.toInt := tnle rfl rfl c5
          refine lv_iload_n hx hb dX12_boosts_36 rfl (lv_at hl 1 rfl) ?_
          refine lv_if_lt (tgt := 55) hx hb dX12_boosts_37 (by decide) (fun c10 => ?_) (fun c10 => ?_)
          · have c10 : m3.toInt < 0 := tlt rfl kp0 c10
            refine lv_iconst (v := 0) hx hb dX12_boosts_55 (by decide) ?_
            refine lv_istore (lv' := [(5, .int 0), (4, .int m4), (3, .int m3), (2, .int r1), (0, .ref (g.2.2.1 13)), (1, .int a0)]) hx hb dX12_boosts_56 hl (by decide) rfl (fun ls hl => ?_)
            have loop58 : ∀ (n58 : Nat) (m5 : Int32) (Gl11 : Nat → Nat → Int32) (H : Heap) (locs : List Loc) (ls : Array Slot), (9 - m5.toInt).toNat < n58 → 0 ≤ m5.toInt ∧ m5.toInt ≤ (J 13 41).toInt → (∀ k : Nat, (∀ j : Nat, (j : Int) < (J 13 41).toInt → ¬ (J 125 j).toNatClampNeg = k) → Gl11 104 k = J 104 k) → RSP (Gl11 104) ((Gl3 104)) (J 125) (J 126) m4 m5.toInt (J 13 32).toInt → WB g A s.heap H locs ((hv (hv J [100, 104, 146] [] Gl3) [104] [] Gl11), L, I, P, E, N) (sgM g) → lv_has ls 7 [(5, .int m5), (4, .int m4), (3, .int m3), (2, .int r1), (0, .ref (g.2.2.1 13)), (1, .int a0)] → W p l e (RM (4) 0 0) s m ([.ref (g.2.2.1 13), .int a0] : List Value).toArray below meth c H locs 0 0 (MQ below Q9 ([.ref (g.2.2.1 13), .int a0] : List Value).toArray s 0 0 A) (F0 m 58 ls []) := by
              intro n58
              induction n58 with
              | zero => intro m5 Gl11 H locs ls hmeas; exact absurd hmeas (Nat.not_lt_zero _)
              | succ n58 ih58 =>
                intro m5 Gl11 H locs ls hmeas hj hf3 hrs hW hl
                refine lv_iload hx hb dX12_boosts_58 (lv_at hl 0 rfl) ?_
                refine lv_aload_n hx hb dX12_boosts_60 rfl (lv_at hl 4 rfl) ?_
                refine rg_13_41 C hW (mm_ rfl) tw_1064 dX12_boosts_61 ?_
                refine lv_as (J 13 41) rfl ?_
                refine lv_icmp_ge (tgt := 107) hx hb dX12_boosts_64 (by decide) (fun c12 => ?_) (fun c12 => ?_)
                · have c12 : (J 13 41).toInt ≤ m5.toInt := tle rfl rfl c12
                  refine lv_aload_n hx hb dX12_boosts_107 rfl (lv_at hl 4 rfl) ?_
                  refine lv_iload_n hx hb dX12_boosts_108 rfl (lv_at hl 5 rfl) ?_
                  refine lv_aload_n hx hb dX12_boosts_109 rfl (lv_at hl 4 rfl) ?_
                  refine rg_13_33 C hW (mm_ rfl) tw_1056 dX12_boosts_110 ?_
                  refine lv_as (J 13 33) rfl ?_
                  refine lv_iconst (v := (-1)) hx hb dX12_boosts_113 (by decide) ?_
                  refine cv_ C hW (runV (x := (g.2.2.1 13)) (As := [.int a0, .int (J 13 33), .int (-1)]) (rest := []) (T := (((hv (hv J [100, 104, 146] [] Gl3) [104] [] Gl11), L, I, P, E, N), sgM g)) C hW (c_X12_sounds_e l g (hv (hv J [100, 104, 146] [] Gl3) [104] [] Gl11) L I P E N H.size a0 (J 13 33) (-1) hwm) mi_X12_sounds tw_1277 (recv_ (T := (((hv (hv J [100, 104, 146] [] Gl3) [104] [] Gl11), L, I, P, E, N), sgM g)) C hW (mm_ rfl) rfl rfl) ⟨rfl, rfl, Nat.le_of_ble_eq_true rfl, Nat.le_of_ble_eq_true rfl⟩ rfl hl.1 rfl (Nat.le_of_ble_eq_true rfl) dX12_boosts_114 ⟨Nat.le_of_ble_eq_true rfl, Nat.le_of_ble_eq_true rfl⟩) (fun u13 H locs hp13 hW => ?_)
                  have hf13_0 : (SND (u13 146) (J 101) (J 102) (J 103) (Gl11 104) (fun k => 0 ≤ (-1 : Int32).toInt ∧ CUTP (J 105) (J 106) (J 107) (J 13 34).toInt (-1 : Int32).toInt k) a0 (J 13 33) (J 13 32).toInt) := hp13
                  clear hp13
                  have hW : WB g A s.heap H locs ((hv (hv (hv J [100, 104, 146] [] Gl3) [104] [] Gl11) [146] [] u13), L, I, P, E, N) (sgM g) := hW
                  have hS := hf13_0
                  have hrs9 : RSP (Gl11 104) (Gl3 104) (J 125) (J 126) m4 (J 13 41).toInt (J 13 32).toInt := by (have e9 : m5.toInt = (J 13 41).toInt := (by omega); rw [← e9]; exact hrs)
                  have hS9 := snd_mo hS (rsp_t hrs9 (by omega) (fun k hk => (hf2 k hk).trans (hmz k)) (fun j hj => (hcN j hj).1))
                  refine lv_iconst (v := 1) hx hb dX12_boosts_117 (by decide) ?_
                  refine lv_istore (lv' := [(5, .int 1), (4, .int m4), (3, .int m3), (2, .int r1), (0, .ref (g.2.2.1 13)), (1, .int a0)]) hx hb dX12_boosts_118 hl (by decide) rfl (fun ls hl => ?_)
                  refine lv_iconst (v := 0) hx hb dX12_boosts_120 (by decide) ?_
                  refine lv_istore (lv' := [(6, .int 0), (5, .int 1), (4, .int m4), (3, .int m3), (2, .int r1), (0, .ref (g.2.2.1 13)), (1, .int a0)]) hx hb dX12_boosts_121 hl (by decide) rfl (fun ls hl => ?_)
                  have loop123 : ∀ (n123 : Nat) (m5 : Int32) (m6 : Int32) (H : Heap) (locs : List Loc) (ls : Array Slot), (40 - m6.toInt).toNat < n123 → 0 ≤ m6.toInt ∧ m6.toInt ≤ (J 13 35).toInt → ((m5.toInt = 1 ∧ ∀ h : Nat, (h : Int) < m6.toInt → (J 13 36).toInt ≤ (u13 146 (J 108 h).toNatClampNeg / J 109 h).toInt) ∨ (m5.toInt = 0 ∧ ∃ h : Nat, (h : Int) < (J 13 35).toInt ∧ ¬ (J 13 36).toInt ≤ (u13 146 (J 108 h).toNatClampNeg / J 109 h).toInt)) → WB g A s.heap H locs ((hv (hv (hv J [100, 104, 146] [] Gl3) [104] [] Gl11) [146] [] u13), L, I, P, E, N) (sgM g) → lv_has ls 7 [(6, .int m6), (5, .int m5), (4, .int m4), (3, .int m3), (2, .int r1), (0, .ref (g.2.2.1 13)), (1, .int a0)] → W p l e (RM (4) 0 0) s m ([.ref (g.2.2.1 13), .int a0] : List Value).toArray below meth c H locs 0 0 (MQ below Q9 ([.ref (g.2.2.1 13), .int a0] : List Value).toArray s 0 0 A) (F0 m 123 ls []) := by
                    intro n123
                    induction n123 with
                    | zero => intro m5 m6 H locs ls hmeas; exact absurd hmeas (Nat.not_lt_zero _)
                    | succ n123 ih123 =>
                      intro m5 m6 H locs ls hmeas hj hal hW hl
                      refine lv_iload hx hb dX12_boosts_123 (lv_at hl 0 rfl) ?_
                      refine lv_aload_n hx hb dX12_boosts_125 rfl (lv_at hl 5 rfl) ?_
                      refine rg_13_35 C hW (mm_ rfl) tw_1058 dX12_boosts_126 ?_
                      refine lv_as (J 13 35) rfl ?_
                      refine lv_icmp_ge (tgt := 151) hx hb dX12_boosts_129 (by decide) (fun c14 => ?_) (fun c14 => ?_)
                      · have c14 : (J 13 35).toInt ≤ m6.toInt := tle rfl rfl c14
                        refine lv_iload hx hb dX12_boosts_151 (lv_at hl 1 rfl) ?_
                        refine lv_if_eq (tgt := 161) hx hb dX12_boosts_153 (by decide) (fun c15 => ?_) (fun c15 => ?_)
                        · have c15 : m5.toInt = 0 := teq rfl kp0 c15
                          refine lv_iload_n hx hb dX12_boosts_161 rfl (lv_at hl 3 rfl) ?_
                          refine lv_istore_n (lv' := [(3, .int m3), (6, .int m6), (5, .int m5), (4, .int m4), (2, .int r1), (0, .ref (g.2.2.1 13)), (1, .int a0)]) hx hb dX12_boosts_162 rfl hl (by decide) rfl (fun ls hl => ?_)
                          obtain ⟨x16, e16⟩ : ∃ y : Int32, y = m4 + 1 := ⟨_, rfl⟩
                          refine lv_iinc (v := x16) (lv' := [(4, .int x16), (3, .int m3), (6, .int m6), (5, .int m5), (2, .int r1), (0, .ref (g.2.2.1 13)), (1, .int a0)]) hx hb dX12_boosts_163 hl (k := 3) rfl (by rw [e16]; rfl) (by decide) rfl (fun ls hl => ?_)
                          try have t16 : x16.toInt = m4.toInt + 1 := tadd e16 rfl kp1 (by omega)
                          refine lv_goto (tgt := 25) hx hb dX12_boosts_166 (by decide) ?_
                          have hWl : WB g A s.heap H locs ((hv J [100, 104, 146] [] (hv (hv (hv J [100, 104, 146] [] Gl3) [104] [] Gl11) [146] [] u13)), L, I, P, E, N) (sgM g) := by
                            rw [← ag_hvE (J := J) (R := [100, 104, 146]) (F := []) (ag_hv rfl rfl (ag_hv rfl rfl (ag_hv rfl rfl ag_rf)))]
                            exact hW
                          refine ih m3 x16 (hv (hv (hv J [100, 104, 146] [] Gl3) [104] [] Gl11) [146] [] u13) H locs ls ?_ ?_ ?_ ?_ hWl (lv_sub hl [0, 1, 4, 5, 6] rfl)
                          · show (2000000 - x16.toInt).toNat < n
                            omega
                          · show 0 ≤ x16.toInt ∧ x16.toInt ≤ ((2 ^ (J 13 41).toInt.toNat : Nat) : Int)
                            first | omega | exact hi | assumption
                          · show ∀ k : Nat, (∀ j : Nat, (j : Int) < (J 13 41).toInt → ¬ (J 125 j).toNatClampNeg = k) → Gl11 104 k = J 104 k
                            first | exact hf2 | exact hf3
                          · show RBS m3 (BSF (fun t => (∃ y : Nat → Int32, SND y (J 101) (J 102) (J 103) (EXS (J 125) (J 126) (Int32.ofNat t) (J 13 41).toInt.toNat) (fun k => 0 ≤ (-1 : Int32).toInt ∧ CUTP (J 105) (J 106) (J 107) (J 13 34).toInt (-1 : Int32).toInt k) a0 (J 13 33) (J 13 32).toInt ∧ HALM y (J 109) (J 108) (J 13 36) (J 13 35).toInt)) (fun t => CB t 32) (fun t => (t : Int)) x16.toInt.toNat)
                            (have e9 : (x16).toInt.toNat = m4.toInt.toNat + 1 := (by omega); rw [e9]; exact rbs_n (s := m4) hbs (show CB m4.toInt.toNat 32 = CB (tN m4) 32 by rw [tN_tn (a := m4) (by omega)]) (Or.inl (fun q => by (have q9 : (∃ y : Nat → Int32, SND y (J 101) (J 102) (J 103) (EXS (J 125) (J 126) (Int32.ofNat m4.toInt.toNat) (J 13 41).toInt.toNat) (fun k => 0 ≤ (-1 : Int32).toInt ∧ CUTP (J 105) (J 106) (J 107) (J 13 34).toInt (-1 : Int32).toInt k) a0 (J 13 33) (J 13 32).toInt ∧ HALM y (J 109) (J 108) (J 13 36) (J 13 35).toInt) := q; rw [← i_ofn (h := m4) (by omega)] at q9; obtain ⟨x9, s9, a9⟩ := q9; obtain ⟨-, h7, h6, h5⟩ := hal.elim (fun q => absurd q.1 (by omega)) id; exact hal_nm hS9 s9 (fun k h1 h2 => (hon k h1 h2).2) (fun j hj => ⟨(hhN j hj).1, (hhN j hj).2.1⟩) (fun z => h5 (z h7 h6)) a9))))
                        · have c15 : ¬ m5.toInt = 0 := tne rfl kp0 c15
                          refine lv_iload hx hb dX12_boosts_156 (lv_at hl 2 rfl) ?_
                          refine lv_goto (tgt := 162) hx hb dX12_boosts_158 (by decide) ?_
                          refine lv_istore_n (lv' := [(3, .int m4), (6, .int m6), (5, .int m5), (4, .int m4), (2, .int r1), (0, .ref (g.2.2.1 13)), (1, .int a0)]) hx hb dX12_boosts_162 rfl hl (by decide) rfl (fun ls hl => ?_)
                          obtain ⟨x17, e17⟩ : ∃ y : Int32, y = m4 + 1 := ⟨_, rfl⟩
                          refine lv_iinc (v := x17) (lv' := [(4, .int x17), (3, .int m4), (6, .int m6), (5, .int m5), (2, .int r1), (0, .ref (g.2.2.1 13)), (1, .int a0)]) hx hb dX12_boosts_163 hl (k := 3) rfl (by rw [e17]; rfl) (by decide) rfl (fun ls hl => ?_)
                          try have t17 : x17.toInt = m4.toInt + 1 := tadd e17 rfl kp1 (by omega)
                          refine lv_goto (tgt := 25) hx hb dX12_boosts_166 (by decide) ?_
                          have hWl : WB g A s.heap H locs ((hv J [100, 104, 146] [] (hv (hv (hv J [100, 104, 146] [] Gl3) [104] [] Gl11) [146] [] u13)), L, I, P, E, N) (sgM g) := by
                            rw [← ag_hvE (J := J) (R := [100, 104, 146]) (F := []) (ag_hv rfl rfl (ag_hv rfl rfl (ag_hv rfl rfl ag_rf)))]
                            exact hW
                          refine ih m4 x17 (hv (hv (hv J [100, 104, 146] [] Gl3) [104] [] Gl11) [146] [] u13) H locs ls ?_ ?_ ?_ ?_ hWl (lv_sub hl [0, 1, 4, 5, 6] rfl)
                          · show (2000000 - x17.toInt).toNat < n
                            omega
                          · show 0 ≤ x17.toInt ∧ x17.toInt ≤ ((2 ^ (J 13 41).toInt.toNat : Nat) : Int)
                            first | omega | exact hi | assumption
                          · show ∀ k : Nat, (∀ j : Nat, (j : Int) < (J 13 41).toInt → ¬ (J 125 j).toNatClampNeg = k) → Gl11 104 k = J 104 k
                            first | exact hf2 | exact hf3
                          · show RBS m4 (BSF (fun t => (∃ y : Nat → Int32, SND y (J 101) (J 102) (J 103) (EXS (J 125) (J 126) (Int32.ofNat t) (J 13 41).toInt.toNat) (fun k => 0 ≤ (-1 : Int32).toInt ∧ CUTP (J 105) (J 106) (J 107) (J 13 34).toInt (-1 : Int32).toInt k) a0 (J 13 33) (J 13 32).toInt ∧ HALM y (J 109) (J 108) (J 13 36) (J 13 35).toInt)) (fun t => CB t 32) (fun t => (t : Int)) x17.toInt.toNat)
                            (have e9 : (x17).toInt.toNat = m4.toInt.toNat + 1 := (by omega); rw [e9]; exact rbs_y hbs (show CB m4.toInt.toNat 32 = CB (tN m4) 32 by rw [tN_tn (a := m4) (by omega)]) (show CB m4.toInt.toNat 32 < 25 by (have h9 := cb9 (t := m4.toInt.toNat) (by omega); omega)) (by first | exact Or.inl (by omega) | exact Or.inr (by omega)) (by show ∃ _, _; rw [← i_ofn (h := m4) (by omega)]; exact ⟨_, hS9, fun h hh => (hal.elim (fun q => q.2) (fun q => absurd q.1 (by omega))) h (by omega)⟩) (by show ((m4.toInt.toNat : Nat) : Int) = _; omega) (by omega))
                      · have c14 : m6.toInt < (J 13 35).toInt := tnle rfl rfl c14
                        refine lv_iload hx hb dX12_boosts_132 (lv_at hl 1 rfl) ?_
                        refine lv_if_eq (tgt := 151) hx hb dX12_boosts_134 (by decide) (fun c18 => ?_) (fun c18 => ?_)
                        · have c18 : m5.toInt = 0 := teq rfl kp0 c18
                          refine lv_iload hx hb dX12_boosts_151 (lv_at hl 1 rfl) ?_
                          refine lv_if_eq (tgt := 161) hx hb dX12_boosts_153 (by decide) (fun c19 => ?_) (fun c19 => ?_)
                          · have c19 : m5.toInt = 0 := teq rfl kp0 c19
                            refine lv_iload_n hx hb dX12_boosts_161 rfl (lv_at hl 3 rfl) ?_
                            refine lv_istore_n (lv' := [(3, .int m3), (6, .int m6), (5, .int m5), (4, .int m4), (2, .int r1), (0, .ref (g.2.2.1 13)), (1, .int a0)]) hx hb dX12_boosts_162 rfl hl (by decide) rfl (fun ls hl => ?_)
                            obtain ⟨x20, e20⟩ : ∃ y : Int32, y = m4 + 1 := ⟨_, rfl⟩
                            refine lv_iinc (v := x20) (lv' := [(4, .int x20), (3, .int m3), (6, .int m6), (5, .int m5), (2, .int r1), (0, .ref (g.2.2.1 13)), (1, .int a0)]) hx hb dX12_boosts_163 hl (k := 3) rfl (by rw [e20]; rfl) (by decide) rfl (fun ls hl => ?_)
                            try have t20 : x20.toInt = m4.toInt + 1 := tadd e20 rfl kp1 (by omega)
                            refine lv_goto (tgt := 25) hx hb dX12_boosts_166 (by decide) ?_
                            have hWl : WB g A s.heap H locs ((hv J [100, 104, 146] [] (hv (hv (hv J [100, 104, 146] [] Gl3) [104] [] Gl11) [146] [] u13)), L, I, P, E, N) (sgM g) := by
                              rw [← ag_hvE (J := J) (R := [100, 104, 146]) (F := []) (ag_hv rfl rfl (ag_hv rfl rfl (ag_hv rfl rfl ag_rf)))]
                              exact hW
                            refine ih m3 x20 (hv (hv (hv J [100, 104, 146] [] Gl3) [104] [] Gl11) [146] [] u13) H locs ls ?_ ?_ ?_ ?_ hWl (lv_sub hl [0, 1, 4, 5, 6] rfl)
                            · show (2000000 - x20.toInt).toNat < n
                              omega
                            · show 0 ≤ x20.toInt ∧ x20.toInt ≤ ((2 ^ (J 13 41).toInt.toNat : Nat) : Int)
                              first | omega | exact hi | assumption
                            · show ∀ k : Nat, (∀ j : Nat, (j : Int) < (J 13 41).toInt → ¬ (J 125 j).toNatClampNeg = k) → Gl11 104 k = J 104 k
                              first | exact hf2 | exact hf3
                            · show RBS m3 (BSF (fun t => (∃ y : Nat → Int32, SND y (J 101) (J 102) (J 103) (EXS (J 125) (J 126) (Int32.ofNat t) (J 13 41).toInt.toNat) (fun k => 0 ≤ (-1 : Int32).toInt ∧ CUTP (J 105) (J 106) (J 107) (J 13 34).toInt (-1 : Int32).toInt k) a0 (J 13 33) (J 13 32).toInt ∧ HALM y (J 109) (J 108) (J 13 36) (J 13 35).toInt)) (fun t => CB t 32) (fun t => (t : Int)) x20.toInt.toNat)
                              (have e9 : (x20).toInt.toNat = m4.toInt.toNat + 1 := (by omega); rw [e9]; exact rbs_n (s := m4) hbs (show CB m4.toInt.toNat 32 = CB (tN m4) 32 by rw [tN_tn (a := m4) (by omega)]) (Or.inl (fun q => by (have q9 : (∃ y : Nat → Int32, SND y (J 101) (J 102) (J 103) (EXS (J 125) (J 126) (Int32.ofNat m4.toInt.toNat) (J 13 41).toInt.toNat) (fun k => 0 ≤ (-1 : Int32).toInt ∧ CUTP (J 105) (J 106) (J 107) (J 13 34).toInt (-1 : Int32).toInt k) a0 (J 13 33) (J 13 32).toInt ∧ HALM y (J 109) (J 108) (J 13 36) (J 13 35).toInt) := q; rw [← i_ofn (h := m4) (by omega)] at q9; obtain ⟨x9, s9, a9⟩ := q9; obtain ⟨-, h7, h6, h5⟩ := hal.elim (fun q => absurd q.1 (by omega)) id; exact hal_nm hS9 s9 (fun k h1 h2 => (hon k h1 h2).2) (fun j hj => ⟨(hhN j hj).1, (hhN j hj).2.1⟩) (fun z => h5 (z h7 h6)) a9))))
                          · have c19 : ¬ m5.toInt = 0 := tne rfl kp0 c19
                            exfalso; omega
                        · have c18 : ¬ m5.toInt = 0 := tne rfl kp0 c18
                          refine lv_aload_n hx hb dX12_boosts_137 rfl (lv_at hl 5 rfl) ?_
                          refine lv_iload hx hb dX12_boosts_138 (lv_at hl 0 rfl) ?_
                          refine ci_ C hW (runV (x := (g.2.2.1 13)) (As := [.int m6]) (rest := []) (T := (((hv (hv (hv J [100, 104, 146] [] Gl3) [104] [] Gl11) [146] [] u13), L, I, P, E, N), sgM g)) C hW (c_X12_hearsNow_e l g (hv (hv (hv J [100, 104, 146] [] Gl3) [104] [] Gl11) [146] [] u13) L I P E N H.size m6 hwm (show 0 ≤ m6.toInt ∧ m6.toInt < (J 13 35).toInt from by omega)) mi_X12_hearsNow tw_1302 (recv_ (T := (((hv (hv (hv J [100, 104, 146] [] Gl3) [104] [] Gl11) [146] [] u13), L, I, P, E, N), sgM g)) C hW (mm_ rfl) rfl rfl) ⟨rfl, rfl, Nat.le_of_ble_eq_true rfl, Nat.le_of_ble_eq_true rfl⟩ rfl hl.1 rfl (Nat.le_of_ble_eq_true rfl) dX12_boosts_140 ⟨Nat.le_of_ble_eq_true rfl, Nat.le_of_ble_eq_true rfl⟩) (fun r21 u21 H locs hp21 hW => ?_)
                          have hf21_0 : (((r21.toInt : Int) = 1 ∧ (J 13 36).toInt ≤ (u13 146 (J 108 m6.toNatClampNeg).toNatClampNeg / J 109 m6.toNatClampNeg).toInt) ∨ ((r21.toInt : Int) = 0 ∧ (u13 146 (J 108 m6.toNatClampNeg).toNatClampNeg / J 109 m6.toNatClampNeg).toInt < (J 13 36).toInt)) := hp21
                          clear hp21
                          have hW : WB g A s.heap H locs ((hv (hv (hv J [100, 104, 146] [] Gl3) [104] [] Gl11) [146] [] u13), L, I, P, E, N) (sgM g) := hW
                          have hHN := hf21_0
                          refine lv_istore (lv' := [(5, .int r21), (6, .int m6), (4, .int m4), (3, .int m3), (2, .int r1), (0, .ref (g.2.2.1 13)), (1, .int a0)]) hx hb dX12_boosts_143 hl (by decide) rfl (fun ls hl => ?_)
                          obtain ⟨x22, e22⟩ : ∃ y : Int32, y = m6 + 1 := ⟨_, rfl⟩
                          refine lv_iinc (v := x22) (lv' := [(6, .int x22), (5, .int r21), (4, .int m4), (3, .int m3), (2, .int r1), (0, .ref (g.2.2.1 13)), (1, .int a0)]) hx hb dX12_boosts_145 hl (k := 1) rfl (by rw [e22]; rfl) (by decide) rfl (fun ls hl => ?_)
                          try have t22 : x22.toInt = m6.toInt + 1 := tadd e22 rfl kp1 (by omega)
                          refine lv_goto (tgt := 123) hx hb dX12_boosts_148 (by decide) ?_
                          refine ih123 r21 x22 H locs ls ?_ ?_ ?_ hW (lv_sub hl [0, 1, 2, 3, 4, 5, 6] rfl)
                          · show (40 - x22.toInt).toNat < n123
                            omega
                          · show 0 ≤ x22.toInt ∧ x22.toInt ≤ (J 13 35).toInt
                            first | omega | exact hj | assumption
                          · show (r21.toInt = 1 ∧ ∀ h : Nat, (h : Int) < x22.toInt → (J 13 36).toInt ≤ (u13 146 (J 108 h).toNatClampNeg / J 109 h).toInt) ∨ (r21.toInt = 0 ∧ ∃ h : Nat, (h : Int) < (J 13 35).toInt ∧ ¬ (J 13 36).toInt ≤ (u13 146 (J 108 h).toNatClampNeg / J 109 h).toInt)
                            (rcases hHN with ⟨z1, z2⟩ | ⟨z1, z2⟩; exact Or.inl ⟨z1, hal_s (hal.elim (fun q => q.2) (fun q => absurd q.1 (by omega))) (by omega) (by omega) z2⟩; exact Or.inr ⟨z1, m6.toNatClampNeg, by have h8 := tcl m6; omega, Int.not_le.mpr z2⟩)
                  -- into the loop
                  refine loop123 ((40 - (0 : Int32).toInt).toNat + 1) 1 0 H locs ls ?_ ?_ ?_ hW (lv_sub hl [0, 1, 2, 3, 4, 5, 6] rfl)
                  · exact Nat.lt_succ_self _
                  · show 0 ≤ (0 : Int32).toInt ∧ (0 : Int32).toInt ≤ (J 13 35).toInt
                    try rw [kp1]
                    try rw [kp0]
                    first | omega | exact hj | assumption
                  · show ((1 : Int32).toInt = 1 ∧ ∀ h : Nat, (h : Int) < (0 : Int32).toInt → (J 13 36).toInt ≤ (u13 146 (J 108 h).toNatClampNeg / J 109 h).toInt) ∨ ((1 : Int32).toInt = 0 ∧ ∃ h : Nat, (h : Int) < (J 13 35).toInt ∧ ¬ (J 13 36).toInt ≤ (u13 146 (J 108 h).toNatClampNeg / J 109 h).toInt)
                    try rw [kp1]
                    try rw [kp0]
                    exact Or.inl ⟨by first | rfl | exact kp1, fun h hh => by exfalso; omega⟩
                · have c12 : m5.toInt < (J 13 41).toInt := tnle rfl rfl c12
                  refine lv_aload_n hx hb dX12_boosts_67 rfl (lv_at hl 4 rfl) ?_
                  refine rg_13_4 C hW (mm_ rfl) tw_1027 dX12_boosts_68 ?_
                  refine lv_aload_n hx hb dX12_boosts_71 rfl (lv_at hl 4 rfl) ?_
                  refine rg_13_25 C hW (mm_ rfl) tw_1048 dX12_boosts_72 ?_
                  refine lv_iload hx hb dX12_boosts_75 (lv_at hl 0 rfl) ?_
                  have hin : vp_in m5 9 := tin rfl (by omega)
                  refine ra_125 C hW (mm_ rfl) hin dX12_boosts_77 ?_
                  refine lv_topi (fun x23 (e23 : x23 = J 125 m5.toNatClampNeg) => ?_)
                  have t23 : x23.toInt = (J 125 m5.toNatClampNeg).toInt := by rw [e23]
                  have q23 := hcN m5.toNatClampNeg
                  rw [← e23] at q23
                  have k23 := tcl m5
                  refine lv_iload hx hb dX12_boosts_78 (lv_at hl 1 rfl) ?_
                  refine lv_iload hx hb dX12_boosts_80 (lv_at hl 0 rfl) ?_
                  refine lv_ishr hx hb dX12_boosts_82 ?_
                  refine lv_topi (fun x24 (e24 : x24 = m4 >>> (m5 &&& 31)) => ?_)
                  refine lv_iconst (v := 1) hx hb dX12_boosts_83 (by decide) ?_
                  refine lv_iand hx hb dX12_boosts_84 ?_
                  refine lv_topi (fun x25 (e25 : x25 = x24 &&& 1) => ?_)
                  refine lv_iconst (v := 1) hx hb dX12_boosts_85 (by decide) ?_
                  refine lv_icmp_ne (tgt := 99) hx hb dX12_boosts_86 (by decide) (fun c26 => ?_) (fun c26 => ?_)
                  · have c26 : ¬ x25.toInt = 1 := tne rfl kp1 c26
                    refine lv_iconst (v := 0) hx hb dX12_boosts_99 (by decide) ?_
                    have hin : vp_in x23 20 := tin rfl (by omega)
                    refine rs_104 C hW (mm_ rfl) hin dX12_boosts_100 (fun H locs hW => ?_)
                    obtain ⟨x27, e27⟩ : ∃ y : Int32, y = m5 + 1 := ⟨_, rfl⟩
                    refine lv_iinc (v := x27) (lv' := [(5, .int x27), (4, .int m4), (3, .int m3), (2, .int r1), (0, .ref (g.2.2.1 13)), (1, .int a0)]) hx hb dX12_boosts_101 hl (k := 0) rfl (by rw [e27]; rfl) (by decide) rfl (fun ls hl => ?_)
                    try have t27 : x27.toInt = m5.toInt + 1 := tadd e27 rfl kp1 (by omega)
                    refine lv_goto (tgt := 58) hx hb dX12_boosts_104 (by decide) ?_
                    have hWl : WB g A s.heap H locs ((hv (hv J [100, 104, 146] [] Gl3) [104] [] (up2 (hv (hv J [100, 104, 146] [] Gl3) [104] [] Gl11) 104 x23.toNatClampNeg 0)), L, I, P, E, N) (sgM g) := by
                      rw [← ag_hvE (J := (hv J [100, 104, 146] [] Gl3)) (R := [104]) (F := []) (ag_up (Or.inl rfl) (ag_hv rfl rfl ag_rf))]
                      exact hW
                    refine ih58 x27 (up2 (hv (hv J [100, 104, 146] [] Gl3) [104] [] Gl11) 104 x23.toNatClampNeg 0) H locs ls ?_ ?_ ?_ ?_ hWl (lv_sub hl [0, 1, 2, 3, 4, 5] rfl)
                    · show (9 - x27.toInt).toNat < n58
                      omega
                    · show 0 ≤ x27.toInt ∧ x27.toInt ≤ (J 13 41).toInt
                      first | omega | exact hj | assumption
                    · show ∀ k : Nat, (∀ j : Nat, (j : Int) < (J 13 41).toInt → ¬ (J 125 j).toNatClampNeg = k) → (up2 Gl11 104 x23.toNatClampNeg 0) 104 k = J 104 k
                      (intro k hk; exact (up2_f _ _ _ (fun q => hk m5.toNatClampNeg (by have h8 := tcl m5; omega) (by rw [← e23]; exact q.symm))).trans (hf3 k hk))
                    · show RSP ((up2 Gl11 104 x23.toNatClampNeg 0) 104) ((Gl3 104)) (J 125) (J 126) m4 x27.toInt (J 13 32).toInt
                      exact rsp_m (i := m5.toInt) hrs e23 (by omega) (by omega) (by omega) (by rcases ib_shr (by omega) (by omega) e24 e25 with ⟨q1, q2⟩ | ⟨q1, q2⟩ <;> first | (exfalso; omega) | (rw [if_neg q2]; done) | (rw [if_pos q2]; rfl))
                  · have c26 : x25.toInt = 1 := teq rfl kp1 c26
                    refine lv_aload_n hx hb dX12_boosts_89 rfl (lv_at hl 4 rfl) ?_
                    refine rg_13_26 C hW (mm_ rfl) tw_1049 dX12_boosts_90 ?_
                    refine lv_iload hx hb dX12_boosts_93 (lv_at hl 0 rfl) ?_
                    have hin : vp_in m5 9 := tin rfl (by omega)
                    refine ra_126 C hW (mm_ rfl) hin dX12_boosts_95 ?_
                    refine lv_topi (fun x28 (e28 : x28 = J 126 m5.toNatClampNeg) => ?_)
                    have t28 : x28.toInt = (J 126 m5.toNatClampNeg).toInt := by rw [e28]
                    refine lv_goto (tgt := 100) hx hb dX12_boosts_96 (by decide) ?_
                    have hin : vp_in x23 20 := tin rfl (by omega)
                    refine rs_104 C hW (mm_ rfl) hin dX12_boosts_100 (fun H locs hW => ?_)
                    obtain ⟨x29, e29⟩ : ∃ y : Int32, y = m5 + 1 := ⟨_, rfl⟩
                    refine lv_iinc (v := x29) (lv' := [(5, .int x29), (4, .int m4), (3, .int m3), (2, .int r1), (0, .ref (g.2.2.1 13)), (1, .int a0)]) hx hb dX12_boosts_101 hl (k := 0) rfl (by rw [e29]; rfl) (by decide) rfl (fun ls hl => ?_)
                    try have t29 : x29.toInt = m5.toInt + 1 := tadd e29 rfl kp1 (by omega)
                    refine lv_goto (tgt := 58) hx hb dX12_boosts_104 (by decide) ?_
                    have hWl : WB g A s.heap H locs ((hv (hv J [100, 104, 146] [] Gl3) [104] [] (up2 (hv (hv J [100, 104, 146] [] Gl3) [104] [] Gl11) 104 x23.toNatClampNeg x28)), L, I, P, E, N) (sgM g) := by
                      rw [← ag_hvE (J := (hv J [100, 104, 146] [] Gl3)) (R := [104]) (F := []) (ag_up (Or.inl rfl) (ag_hv rfl rfl ag_rf))]
                      exact hW
                    refine ih58 x29 (up2 (hv (hv J [100, 104, 146] [] Gl3) [104] [] Gl11) 104 x23.toNatClampNeg x28) H locs ls ?_ ?_ ?_ ?_ hWl (lv_sub hl [0, 1, 2, 3, 4, 5] rfl)
                    · show (9 - x29.toInt).toNat < n58
                      omega
                    · show 0 ≤ x29.toInt ∧ x29.toInt ≤ (J 13 41).toInt
                      first | omega | exact hj | assumption
                    · show ∀ k : Nat, (∀ j : Nat, (j : Int) < (J 13 41).toInt → ¬ (J 125 j).toNatClampNeg = k) → (up2 Gl11 104 x23.toNatClampNeg x28) 104 k = J 104 k
                      (intro k hk; exact (up2_f _ _ _ (fun q => hk m5.toNatClampNeg (by have h8 := tcl m5; omega) (by rw [← e23]; exact q.symm))).trans (hf3 k hk))
                    · show RSP ((up2 Gl11 104 x23.toNatClampNeg x28) 104) ((Gl3 104)) (J 125) (J 126) m4 x29.toInt (J 13 32).toInt
                      exact rsp_m (i := m5.toInt) hrs e23 (by omega) (by omega) (by omega) (by rcases ib_shr (by omega) (by omega) e24 e25 with ⟨q1, q2⟩ | ⟨q1, q2⟩ <;> first | (exfalso; omega) | (rw [if_neg q2]; done) | (rw [if_pos q2]; exact e28))
            -- into the loop
            have hWl : WB g A s.heap H locs ((hv (hv J [100, 104, 146] [] Gl3) [104] [] (hv J [100, 104, 146] [] Gl3)), L, I, P, E, N) (sgM g) := by
              rw [← ag_hvE (J := (hv J [100, 104, 146] [] Gl3)) (R := [104]) (F := []) ag_rf]
              exact hW
            refine loop58 ((9 - (0 : Int32).toInt).toNat + 1) 0 (hv J [100, 104, 146] [] Gl3) H locs ls ?_ ?_ ?_ ?_ hWl (lv_sub hl [0, 1, 2, 3, 4, 5] rfl)
            · exact Nat.lt_succ_self _
            · show 0 ≤ (0 : Int32).toInt ∧ (0 : Int32).toInt ≤ (J 13 41).toInt
              try rw [kp0]
              first | omega | exact hj | assumption
            · show ∀ k : Nat, (∀ j : Nat, (j : Int) < (J 13 41).toInt → ¬ (J 125 j).toNatClampNeg = k) → Gl3 104 k = J 104 k
              try rw [kp0]
              exact hf2
            · show RSP (Gl3 104) ((Gl3 104)) (J 125) (J 126) m4 (0 : Int32).toInt (J 13 32).toInt
              try rw [kp0]
              exact rsp_0 (by first | rfl | exact kp0)
          · have c10 : 0 ≤ m3.toInt := tnlt rfl kp0 c10
            refine lv_iload hx hb dX12_boosts_40 (lv_at hl 0 rfl) ?_
            refine ci_ C hW (runS (As := [.int m4]) (rest := []) (T := (((hv J [100, 104, 146] [] Gl3), L, I, P, E, N), sgM g)) C hW (c_X12_bits_e l g (hv J [100, 104, 146] [] Gl3) L I P E N H.size m4 (show 0 ≤ m4.toInt from (by omega))) mi_X12_bits tw_1460 ⟨rfl, rfl, Nat.le_of_ble_eq_true rfl, Nat.le_of_ble_eq_true rfl⟩ rfl hl.1 rfl (Nat.le_of_ble_eq_true rfl) dX12_boosts_42 ⟨Nat.le_of_ble_eq_true rfl, Nat.le_of_ble_eq_true rfl⟩) (fun r30 u30 H locs hp30 hW => ?_)
            have hf30_0 : (r30.toInt = ((CB (tN m4) 32 : Nat) : Int)) := hp30
            clear hp30
            have hW : WB g A s.heap H locs ((hv J [100, 104, 146] [] Gl3), L, I, P, E, N) (sgM g) := hW
            have hBA := hf30_0
            refine lv_iload_n hx hb dX12_boosts_45 rfl (lv_at hl 1 rfl) ?_
            refine ci_ C hW (runS (As := [.int m3]) (rest := [.int r30]) (T := (((hv J [100, 104, 146] [] Gl3), L, I, P, E, N), sgM g)) C hW (c_X12_bits_e l g (hv J [100, 104, 146] [] Gl3) L I P E N H.size m3 (show 0 ≤ m3.toInt from (by omega))) mi_X12_bits tw_1460 ⟨rfl, rfl, Nat.le_of_ble_eq_true rfl, Nat.le_of_ble_eq_true rfl⟩ rfl hl.1 rfl (Nat.le_of_ble_eq_true rfl) dX12_boosts_46 ⟨Nat.le_of_ble_eq_true rfl, Nat.le_of_ble_eq_true rfl⟩) (fun r31 u31 H locs hp31 hW => ?_)
            have hf31_0 : (r31.toInt = ((CB (tN m3) 32 : Nat) : Int)) := hp31
            clear hp31
            have hW : WB g A s.heap H locs ((hv J [100, 104, 146] [] Gl3), L, I, P, E, N) (sgM g) := hW
            have hBB := hf31_0
            refine lv_icmp_lt (tgt := 55) hx hb dX12_boosts_49 (by decide) (fun c32 => ?_) (fun c32 => ?_)
            · have c32 : r30.toInt < r31.toInt := tlt rfl rfl c32
              refine lv_iconst (v := 0) hx hb dX12_boosts_55 (by decide) ?_
              refine lv_istore (lv' := [(5, .int 0), (4, .int m4), (3, .int m3), (2, .int r1), (0, .ref (g.2.2.1 13)), (1, .int a0)]) hx hb dX12_boosts_56 hl (by decide) rfl (fun ls hl => ?_)
              have loop58 : ∀ (n58 : Nat) (m5 : Int32) (Gl33 : Nat → Nat → Int32) (H : Heap) (locs : List Loc) (ls : Array Slot), (9 - m5.toInt).toNat < n58 → 0 ≤ m5.toInt ∧ m5.toInt ≤ (J 13 41).toInt → (∀ k : Nat, (∀ j : Nat, (j : Int) < (J 13 41).toInt → ¬ (J 125 j).toNatClampNeg = k) → Gl33 104 k = J 104 k) → RSP (Gl33 104) ((Gl3 104)) (J 125) (J 126) m4 m5.toInt (J 13 32).toInt → WB g A s.heap H locs ((hv (hv J [100, 104, 146] [] Gl3) [104] [] Gl33), L, I, P, E, N) (sgM g) → lv_has ls 7 [(5, .int m5), (4, .int m4), (3, .int m3), (2, .int r1), (0, .ref (g.2.2.1 13)), (1, .int a0)] → W p l e (RM (4) 0 0) s m ([.ref (g.2.2.1 13), .int a0] : List Value).toArray below meth c H locs 0 0 (MQ below Q9 ([.ref (g.2.2.1 13), .int a0] : List Value).toArray s 0 0 A) (F0 m 58 ls []) := by
                intro n58
                induction n58 with
                | zero => intro m5 Gl33 H locs ls hmeas; exact absurd hmeas (Nat.not_lt_zero _)
                | succ n58 ih58 =>
                  intro m5 Gl33 H locs ls hmeas hj hf3 hrs hW hl
                  refine lv_iload hx hb dX12_boosts_58 (lv_at hl 0 rfl) ?_
                  refine lv_aload_n hx hb dX12_boosts_60 rfl (lv_at hl 4 rfl) ?_
                  refine rg_13_41 C hW (mm_ rfl) tw_1064 dX12_boosts_61 ?_
                  refine lv_as (J 13 41) rfl ?_
                  refine lv_icmp_ge (tgt := 107) hx hb dX12_boosts_64 (by decide) (fun c34 => ?_) (fun c34 => ?_)
                  · have c34 : (J 13 41).toInt ≤ m5.toInt := tle rfl rfl c34
                    refine lv_aload_n hx hb dX12_boosts_107 rfl (lv_at hl 4 rfl) ?_
                    refine lv_iload_n hx hb dX12_boosts_108 rfl (lv_at hl 5 rfl) ?_
                    refine lv_aload_n hx hb dX12_boosts_109 rfl (lv_at hl 4 rfl) ?_
                    refine rg_13_33 C hW (mm_ rfl) tw_1056 dX12_boosts_110 ?_
                    refine lv_as (J 13 33) rfl ?_
                    refine lv_iconst (v := (-1)) hx hb dX12_boosts_113 (by decide) ?_
                    refine cv_ C hW (runV (x := (g.2.2.1 13)) (As := [.int a0, .int (J 13 33), .int (-1)]) (rest := []) (T := (((hv (hv J [100, 104, 146] [] Gl3) [104] [] Gl33), L, I, P, E, N), sgM g)) C hW (c_X12_sounds_e l g (hv (hv J [100, 104, 146] [] Gl3) [104] [] Gl33) L I P E N H.size a0 (J 13 33) (-1) hwm) mi_X12_sounds tw_1277 (recv_ (T := (((hv (hv J [100, 104, 146] [] Gl3) [104] [] Gl33), L, I, P, E, N), sgM g)) C hW (mm_ rfl) rfl rfl) ⟨rfl, rfl, Nat.le_of_ble_eq_true rfl, Nat.le_of_ble_eq_true rfl⟩ rfl hl.1 rfl (Nat.le_of_ble_eq_true rfl) dX12_boosts_114 ⟨Nat.le_of_ble_eq_true rfl, Nat.le_of_ble_eq_true rfl⟩) (fun u35 H locs hp35 hW => ?_)
                    have hf35_0 : (SND (u35 146) (J 101) (J 102) (J 103) (Gl33 104) (fun k => 0 ≤ (-1 : Int32).toInt ∧ CUTP (J 105) (J 106) (J 107) (J 13 34).toInt (-1 : Int32).toInt k) a0 (J 13 33) (J 13 32).toInt) := hp35
                    clear hp35
                    have hW : WB g A s.heap H locs ((hv (hv (hv J [100, 104, 146] [] Gl3) [104] [] Gl33) [146] [] u35), L, I, P, E, N) (sgM g) := hW
                    have hS := hf35_0
                    have hrs9 : RSP (Gl33 104) (Gl3 104) (J 125) (J 126) m4 (J 13 41).toInt (J 13 32).toInt := by (have e9 : m5.toInt = (J 13 41).toInt := (by omega); rw [← e9]; exact hrs)
                    have hS9 := snd_mo hS (rsp_t hrs9 (by omega) (fun k hk => (hf2 k hk).trans (hmz k)) (fun j hj => (hcN j hj).1))
                    refine lv_iconst (v := 1) hx hb dX12_boosts_117 (by decide) ?_
                    refine lv_istore (lv' := [(5, .int 1), (4, .int m4), (3, .int m3), (2, .int r1), (0, .ref (g.2.2.1 13)), (1, .int a0)]) hx hb dX12_boosts_118 hl (by decide) rfl (fun ls hl => ?_)
                    refine lv_iconst (v := 0) hx hb dX12_boosts_120 (by decide) ?_
                    refine lv_istore (lv' := [(6, .int 0), (5, .int 1), (4, .int m4), (3, .int m3), (2, .int r1), (0, .ref (g.2.2.1 13)), (1, .int a0)]) hx hb dX12_boosts_121 hl (by decide) rfl (fun ls hl => ?_)
                    have loop123 : ∀ (n123 : Nat) (m5 : Int32) (m6 : Int32) (H : Heap) (locs : List Loc) (ls : Array Slot), (40 - m6.toInt).toNat < n123 → 0 ≤ m6.toInt ∧ m6.toInt ≤ (J 13 35).toInt → ((m5.toInt = 1 ∧ ∀ h : Nat, (h : Int) < m6.toInt → (J 13 36).toInt ≤ (u35 146 (J 108 h).toNatClampNeg / J 109 h).toInt) ∨ (m5.toInt = 0 ∧ ∃ h : Nat, (h : Int) < (J 13 35).toInt ∧ ¬ (J 13 36).toInt ≤ (u35 146 (J 108 h).toNatClampNeg / J 109 h).toInt)) → WB g A s.heap H locs ((hv (hv (hv J [100, 104, 146] [] Gl3) [104] [] Gl33) [146] [] u35), L, I, P, E, N) (sgM g) → lv_has ls 7 [(6, .int m6), (5, .int m5), (4, .int m4), (3, .int m3), (2, .int r1), (0, .ref (g.2.2.1 13)), (1, .int a0)] → W p l e (RM (4) 0 0) s m ([.ref (g.2.2.1 13), .int a0] : List Value).toArray below meth c H locs 0 0 (MQ below Q9 ([.ref (g.2.2.1 13), .int a0] : List Value).toArray s 0 0 A) (F0 m 123 ls []) := by
                      intro n123
                      induction n123 with
                      | zero => intro m5 m6 H locs ls hmeas; exact absurd hmeas (Nat.not_lt_zero _)
                      | succ n123 ih123 =>
                        intro m5 m6 H locs ls hmeas hj hal hW hl
                        refine lv_iload hx hb dX12_boosts_123 (lv_at hl 0 rfl) ?_
                        refine lv_aload_n hx hb dX12_boosts_125 rfl (lv_at hl 5 rfl) ?_
                        refine rg_13_35 C hW (mm_ rfl) tw_1058 dX12_boosts_126 ?_
                        refine lv_as (J 13 35) rfl ?_
                        refine lv_icmp_ge (tgt := 151) hx hb dX12_boosts_129 (by decide) (fun c36 => ?_) (fun c36 => ?_)
                        · have c36 : (J 13 35).toInt ≤ m6.toInt := tle rfl rfl c36
                          refine lv_iload hx hb dX12_boosts_151 (lv_at hl 1 rfl) ?_
                          refine lv_if_eq (tgt := 161) hx hb dX12_boosts_153 (by decide) (fun c37 => ?_) (fun c37 => ?_)
                          · have c37 : m5.toInt = 0 := teq rfl kp0 c37
                            refine lv_iload_n hx hb dX12_boosts_161 rfl (lv_at hl 3 rfl) ?_
                            refine lv_istore_n (lv' := [(3, .int m3), (6, .int m6), (5, .int m5), (4, .int m4), (2, .int r1), (0, .ref (g.2.2.1 13)), (1, .int a0)]) hx hb dX12_boosts_162 rfl hl (by decide) rfl (fun ls hl => ?_)
                            obtain ⟨x38, e38⟩ : ∃ y : Int32, y = m4 + 1 := ⟨_, rfl⟩
                            refine lv_iinc (v := x38) (lv' := [(4, .int x38), (3, .int m3), (6, .int m6), (5, .int m5), (2, .int r1), (0, .ref (g.2.2.1 13)), (1, .int a0)]) hx hb dX12_boosts_163 hl (k := 3) rfl (by rw [e38]; rfl) (by decide) rfl (fun ls hl => ?_)
                            try have t38 : x38.toInt = m4.toInt + 1 := tadd e38 rfl kp1 (by omega)
                            refine lv_goto (tgt := 25) hx hb dX12_boosts_166 (by decide) ?_
                            have hWl : WB g A s.heap H locs ((hv J [100, 104, 146] [] (hv (hv (hv J [100, 104, 146] [] Gl3) [104] [] Gl33) [146] [] u35)), L, I, P, E, N) (sgM g) := by
                              rw [← ag_hvE (J := J) (R := [100, 104, 146]) (F := []) (ag_hv rfl rfl (ag_hv rfl rfl (ag_hv rfl rfl ag_rf)))]
                              exact hW
                            refine ih m3 x38 (hv (hv (hv J [100, 104, 146] [] Gl3) [104] [] Gl33) [146] [] u35) H locs ls ?_ ?_ ?_ ?_ hWl (lv_sub hl [0, 1, 4, 5, 6] rfl)
                            · show (2000000 - x38.toInt).toNat < n
                              omega
                            · show 0 ≤ x38.toInt ∧ x38.toInt ≤ ((2 ^ (J 13 41).toInt.toNat : Nat) : Int)
                              first | omega | exact hi | assumption
                            · show ∀ k : Nat, (∀ j : Nat, (j : Int) < (J 13 41).toInt → ¬ (J 125 j).toNatClampNeg = k) → Gl33 104 k = J 104 k
                              first | exact hf2 | exact hf3
                            · show RBS m3 (BSF (fun t => (∃ y : Nat → Int32, SND y (J 101) (J 102) (J 103) (EXS (J 125) (J 126) (Int32.ofNat t) (J 13 41).toInt.toNat) (fun k => 0 ≤ (-1 : Int32).toInt ∧ CUTP (J 105) (J 106) (J 107) (J 13 34).toInt (-1 : Int32).toInt k) a0 (J 13 33) (J 13 32).toInt ∧ HALM y (J 109) (J 108) (J 13 36) (J 13 35).toInt)) (fun t => CB t 32) (fun t => (t : Int)) x38.toInt.toNat)
                              (have e9 : (x38).toInt.toNat = m4.toInt.toNat + 1 := (by omega); rw [e9]; exact rbs_n (s := m4) hbs (show CB m4.toInt.toNat 32 = CB (tN m4) 32 by rw [tN_tn (a := m4) (by omega)]) (Or.inl (fun q => by (have q9 : (∃ y : Nat → Int32, SND y (J 101) (J 102) (J 103) (EXS (J 125) (J 126) (Int32.ofNat m4.toInt.toNat) (J 13 41).toInt.toNat) (fun k => 0 ≤ (-1 : Int32).toInt ∧ CUTP (J 105) (J 106) (J 107) (J 13 34).toInt (-1 : Int32).toInt k) a0 (J 13 33) (J 13 32).toInt ∧ HALM y (J 109) (J 108) (J 13 36) (J 13 35).toInt) := q; rw [← i_ofn (h := m4) (by omega)] at q9; obtain ⟨x9, s9, a9⟩ := q9; obtain ⟨-, h7, h6, h5⟩ := hal.elim (fun q => absurd q.1 (by omega)) id; exact hal_nm hS9 s9 (fun k h1 h2 => (hon k h1 h2).2) (fun j hj => ⟨(hhN j hj).1, (hhN j hj).2.1⟩) (fun z => h5 (z h7 h6)) a9))))
                          · have c37 : ¬ m5.toInt = 0 := tne rfl kp0 c37
                            refine lv_iload hx hb dX12_boosts_156 (lv_at hl 2 rfl) ?_
                            refine lv_goto (tgt := 162) hx hb dX12_boosts_158 (by decide) ?_
                            refine lv_istore_n (lv' := [(3, .int m4), (6, .int m6), (5, .int m5), (4, .int m4), (2, .int r1), (0, .ref (g.2.2.1 13)), (1, .int a0)]) hx hb dX12_boosts_162 rfl hl (by decide) rfl (fun ls hl => ?_)
                            obtain ⟨x39, e39⟩ : ∃ y : Int32, y = m4 + 1 := ⟨_, rfl⟩
                            refine lv_iinc (v := x39) (lv' := [(4, .int x39), (3, .int m4), (6, .int m6), (5, .int m5), (2, .int r1), (0, .ref (g.2.2.1 13)), (1, .int a0)]) hx hb dX12_boosts_163 hl (k := 3) rfl (by rw [e39]; rfl) (by decide) rfl (fun ls hl => ?_)
                            try have t39 : x39.toInt = m4.toInt + 1 := tadd e39 rfl kp1 (by omega)
                            refine lv_goto (tgt := 25) hx hb dX12_boosts_166 (by decide) ?_
                            have hWl : WB g A s.heap H locs ((hv J [100, 104, 146] [] (hv (hv (hv J [100, 104, 146] [] Gl3) [104] [] Gl33) [146] [] u35)), L, I, P, E, N) (sgM g) := by
                              rw [← ag_hvE (J := J) (R := [100, 104, 146]) (F := []) (ag_hv rfl rfl (ag_hv rfl rfl (ag_hv rfl rfl ag_rf)))]
                              exact hW
                            refine ih m4 x39 (hv (hv (hv J [100, 104, 146] [] Gl3) [104] [] Gl33) [146] [] u35) H locs ls ?_ ?_ ?_ ?_ hWl (lv_sub hl [0, 1, 4, 5, 6] rfl)
                            · show (2000000 - x39.toInt).toNat < n
                              omega
                            · show 0 ≤ x39.toInt ∧ x39.toInt ≤ ((2 ^ (J 13 41).toInt.toNat : Nat) : Int)
                              first | omega | exact hi | assumption
                            · show ∀ k : Nat, (∀ j : Nat, (j : Int) < (J 13 41).toInt → ¬ (J 125 j).toNatClampNeg = k) → Gl33 104 k = J 104 k
                              first | exact hf2 | exact hf3
                            · show RBS m4 (BSF (fun t => (∃ y : Nat → Int32, SND y (J 101) (J 102) (J 103) (EXS (J 125) (J 126) (Int32.ofNat t) (J 13 41).toInt.toNat) (fun k => 0 ≤ (-1 : Int32).toInt ∧ CUTP (J 105) (J 106) (J 107) (J 13 34).toInt (-1 : Int32).toInt k) a0 (J 13 33) (J 13 32).toInt ∧ HALM y (J 109) (J 108) (J 13 36) (J 13 35).toInt)) (fun t => CB t 32) (fun t => (t : Int)) x39.toInt.toNat)
                              (have e9 : (x39).toInt.toNat = m4.toInt.toNat + 1 := (by omega); rw [e9]; exact rbs_y hbs (show CB m4.toInt.toNat 32 = CB (tN m4) 32 by rw [tN_tn (a := m4) (by omega)]) (show CB m4.toInt.toNat 32 < 25 by (have h9 := cb9 (t := m4.toInt.toNat) (by omega); omega)) (by first | exact Or.inl (by omega) | exact Or.inr (by omega)) (by show ∃ _, _; rw [← i_ofn (h := m4) (by omega)]; exact ⟨_, hS9, fun h hh => (hal.elim (fun q => q.2) (fun q => absurd q.1 (by omega))) h (by omega)⟩) (by show ((m4.toInt.toNat : Nat) : Int) = _; omega) (by omega))
                        · have c36 : m6.toInt < (J 13 35).toInt := tnle rfl rfl c36
                          refine lv_iload hx hb dX12_boosts_132 (lv_at hl 1 rfl) ?_
                          refine lv_if_eq (tgt := 151) hx hb dX12_boosts_134 (by decide) (fun c40 => ?_) (fun c40 => ?_)
                          · have c40 : m5.toInt = 0 := teq rfl kp0 c40
                            refine lv_iload hx hb dX12_boosts_151 (lv_at hl 1 rfl) ?_
                            refine lv_if_eq (tgt := 161) hx hb dX12_boosts_153 (by decide) (fun c41 => ?_) (fun c41 => ?_)
                            · have c41 : m5.toInt = 0 := teq rfl kp0 c41
                              refine lv_iload_n hx hb dX12_boosts_161 rfl (lv_at hl 3 rfl) ?_
                              refine lv_istore_n (lv' := [(3, .int m3), (6, .int m6), (5, .int m5), (4, .int m4), (2, .int r1), (0, .ref (g.2.2.1 13)), (1, .int a0)]) hx hb dX12_boosts_162 rfl hl (by decide) rfl (fun ls hl => ?_)
                              obtain ⟨x42, e42⟩ : ∃ y : Int32, y = m4 + 1 := ⟨_, rfl⟩
                              refine lv_iinc (v := x42) (lv' := [(4, .int x42), (3, .int m3), (6, .int m6), (5, .int m5), (2, .int r1), (0, .ref (g.2.2.1 13)), (1, .int a0)]) hx hb dX12_boosts_163 hl (k := 3) rfl (by rw [e42]; rfl) (by decide) rfl (fun ls hl => ?_)
                              try have t42 : x42.toInt = m4.toInt + 1 := tadd e42 rfl kp1 (by omega)
                              refine lv_goto (tgt := 25) hx hb dX12_boosts_166 (by decide) ?_
                              have hWl : WB g A s.heap H locs ((hv J [100, 104, 146] [] (hv (hv (hv J [100, 104, 146] [] Gl3) [104] [] Gl33) [146] [] u35)), L, I, P, E, N) (sgM g) := by
                                rw [← ag_hvE (J := J) (R := [100, 104, 146]) (F := []) (ag_hv rfl rfl (ag_hv rfl rfl (ag_hv rfl rfl ag_rf)))]
                                exact hW
                              refine ih m3 x42 (hv (hv (hv J [100, 104, 146] [] Gl3) [104] [] Gl33) [146] [] u35) H locs ls ?_ ?_ ?_ ?_ hWl (lv_sub hl [0, 1, 4, 5, 6] rfl)
                              · show (2000000 - x42.toInt).toNat < n
                                omega
                              · show 0 ≤ x42.toInt ∧ x42.toInt ≤ ((2 ^ (J 13 41).toInt.toNat : Nat) : Int)
                                first | omega | exact hi | assumption
                              · show ∀ k : Nat, (∀ j : Nat, (j : Int) < (J 13 41).toInt → ¬ (J 125 j).toNatClampNeg = k) → Gl33 104 k = J 104 k
                                first | exact hf2 | exact hf3
                              · show RBS m3 (BSF (fun t => (∃ y : Nat → Int32, SND y (J 101) (J 102) (J 103) (EXS (J 125) (J 126) (Int32.ofNat t) (J 13 41).toInt.toNat) (fun k => 0 ≤ (-1 : Int32).toInt ∧ CUTP (J 105) (J 106) (J 107) (J 13 34).toInt (-1 : Int32).toInt k) a0 (J 13 33) (J 13 32).toInt ∧ HALM y (J 109) (J 108) (J 13 36) (J 13 35).toInt)) (fun t => CB t 32) (fun t => (t : Int)) x42.toInt.toNat)
                                (have e9 : (x42).toInt.toNat = m4.toInt.toNat + 1 := (by omega); rw [e9]; exact rbs_n (s := m4) hbs (show CB m4.toInt.toNat 32 = CB (tN m4) 32 by rw [tN_tn (a := m4) (by omega)]) (Or.inl (fun q => by (have q9 : (∃ y : Nat → Int32, SND y (J 101) (J 102) (J 103) (EXS (J 125) (J 126) (Int32.ofNat m4.toInt.toNat) (J 13 41).toInt.toNat) (fun k => 0 ≤ (-1 : Int32).toInt ∧ CUTP (J 105) (J 106) (J 107) (J 13 34).toInt (-1 : Int32).toInt k) a0 (J 13 33) (J 13 32).toInt ∧ HALM y (J 109) (J 108) (J 13 36) (J 13 35).toInt) := q; rw [← i_ofn (h := m4) (by omega)] at q9; obtain ⟨x9, s9, a9⟩ := q9; obtain ⟨-, h7, h6, h5⟩ := hal.elim (fun q => absurd q.1 (by omega)) id; exact hal_nm hS9 s9 (fun k h1 h2 => (hon k h1 h2).2) (fun j hj => ⟨(hhN j hj).1, (hhN j hj).2.1⟩) (fun z => h5 (z h7 h6)) a9))))
                            · have c41 : ¬ m5.toInt = 0 := tne rfl kp0 c41
                              exfalso; omega
                          · have c40 : ¬ m5.toInt = 0 := tne rfl kp0 c40
                            refine lv_aload_n hx hb dX12_boosts_137 rfl (lv_at hl 5 rfl) ?_
                            refine lv_iload hx hb dX12_boosts_138 (lv_at hl 0 rfl) ?_
                            refine ci_ C hW (runV (x := (g.2.2.1 13)) (As := [.int m6]) (rest := []) (T := (((hv (hv (hv J [100, 104, 146] [] Gl3) [104] [] Gl33) [146] [] u35), L, I, P, E, N), sgM g)) C hW (c_X12_hearsNow_e l g (hv (hv (hv J [100, 104, 146] [] Gl3) [104] [] Gl33) [146] [] u35) L I P E N H.size m6 hwm (show 0 ≤ m6.toInt ∧ m6.toInt < (J 13 35).toInt from by omega)) mi_X12_hearsNow tw_1302 (recv_ (T := (((hv (hv (hv J [100, 104, 146] [] Gl3) [104] [] Gl33) [146] [] u35), L, I, P, E, N), sgM g)) C hW (mm_ rfl) rfl rfl) ⟨rfl, rfl, Nat.le_of_ble_eq_true rfl, Nat.le_of_ble_eq_true rfl⟩ rfl hl.1 rfl (Nat.le_of_ble_eq_true rfl) dX12_boosts_140 ⟨Nat.le_of_ble_eq_true rfl, Nat.le_of_ble_eq_true rfl⟩) (fun r43 u43 H locs hp43 hW => ?_)
                            have hf43_0 : (((r43.toInt : Int) = 1 ∧ (J 13 36).toInt ≤ (u35 146 (J 108 m6.toNatClampNeg).toNatClampNeg / J 109 m6.toNatClampNeg).toInt) ∨ ((r43.toInt : Int) = 0 ∧ (u35 146 (J 108 m6.toNatClampNeg).toNatClampNeg / J 109 m6.toNatClampNeg).toInt < (J 13 36).toInt)) := hp43
                            clear hp43
                            have hW : WB g A s.heap H locs ((hv (hv (hv J [100, 104, 146] [] Gl3) [104] [] Gl33) [146] [] u35), L, I, P, E, N) (sgM g) := hW
                            have hHN := hf43_0
                            refine lv_istore (lv' := [(5, .int r43), (6, .int m6), (4, .int m4), (3, .int m3), (2, .int r1), (0, .ref (g.2.2.1 13)), (1, .int a0)]) hx hb dX12_boosts_143 hl (by decide) rfl (fun ls hl => ?_)
                            obtain ⟨x44, e44⟩ : ∃ y : Int32, y = m6 + 1 := ⟨_, rfl⟩
                            refine lv_iinc (v := x44) (lv' := [(6, .int x44), (5, .int r43), (4, .int m4), (3, .int m3), (2, .int r1), (0, .ref (g.2.2.1 13)), (1, .int a0)]) hx hb dX12_boosts_145 hl (k := 1) rfl (by rw [e44]; rfl) (by decide) rfl (fun ls hl => ?_)
                            try have t44 : x44.toInt = m6.toInt + 1 := tadd e44 rfl kp1 (by omega)
                            refine lv_goto (tgt := 123) hx hb dX12_boosts_148 (by decide) ?_
                            refine ih123 r43 x44 H locs ls ?_ ?_ ?_ hW (lv_sub hl [0, 1, 2, 3, 4, 5, 6] rfl)
                            · show (40 - x44.toInt).toNat < n123
                              omega
                            · show 0 ≤ x44.toInt ∧ x44.toInt ≤ (J 13 35).toInt
                              first | omega | exact hj | assumption
                            · show (r43.toInt = 1 ∧ ∀ h : Nat, (h : Int) < x44.toInt → (J 13 36).toInt ≤ (u35 146 (J 108 h).toNatClampNeg / J 109 h).toInt) ∨ (r43.toInt = 0 ∧ ∃ h : Nat, (h : Int) < (J 13 35).toInt ∧ ¬ (J 13 36).toInt ≤ (u35 146 (J 108 h).toNatClampNeg / J 109 h).toInt)
                              (rcases hHN with ⟨z1, z2⟩ | ⟨z1, z2⟩; exact Or.inl ⟨z1, hal_s (hal.elim (fun q => q.2) (fun q => absurd q.1 (by omega))) (by omega) (by omega) z2⟩; exact Or.inr ⟨z1, m6.toNatClampNeg, by have h8 := tcl m6; omega, Int.not_le.mpr z2⟩)
                    -- into the loop
                    refine loop123 ((40 - (0 : Int32).toInt).toNat + 1) 1 0 H locs ls ?_ ?_ ?_ hW (lv_sub hl [0, 1, 2, 3, 4, 5, 6] rfl)
                    · exact Nat.lt_succ_self _
                    · show 0 ≤ (0 : Int32).toInt ∧ (0 : Int32).toInt ≤ (J 13 35).toInt
                      try rw [kp1]
                      try rw [kp0]
                      first | omega | exact hj | assumption
                    · show ((1 : Int32).toInt = 1 ∧ ∀ h : Nat, (h : Int) < (0 : Int32).toInt → (J 13 36).toInt ≤ (u35 146 (J 108 h).toNatClampNeg / J 109 h).toInt) ∨ ((1 : Int32).toInt = 0 ∧ ∃ h : Nat, (h : Int) < (J 13 35).toInt ∧ ¬ (J 13 36).toInt ≤ (u35 146 (J 108 h).toNatClampNeg / J 109 h).toInt)
                      try rw [kp1]
                      try rw [kp0]
                      exact Or.inl ⟨by first | rfl | exact kp1, fun h hh => by exfalso; omega⟩
                  · have c34 : m5.toInt < (J 13 41).toInt := tnle rfl rfl c34
                    refine lv_aload_n hx hb dX12_boosts_67 rfl (lv_at hl 4 rfl) ?_
                    refine rg_13_4 C hW (mm_ rfl) tw_1027 dX12_boosts_68 ?_
                    refine lv_aload_n hx hb dX12_boosts_71 rfl (lv_at hl 4 rfl) ?_
                    refine rg_13_25 C hW (mm_ rfl) tw_1048 dX12_boosts_72 ?_
                    refine lv_iload hx hb dX12_boosts_75 (lv_at hl 0 rfl) ?_
                    have hin : vp_in m5 9 := tin rfl (by omega)
                    refine ra_125 C hW (mm_ rfl) hin dX12_boosts_77 ?_
                    refine lv_topi (fun x45 (e45 : x45 = J 125 m5.toNatClampNeg) => ?_)
                    have t45 : x45.toInt = (J 125 m5.toNatClampNeg).toInt := by rw [e45]
                    have q45 := hcN m5.toNatClampNeg
                    rw [← e45] at q45
                    have k45 := tcl m5
                    refine lv_iload hx hb dX12_boosts_78 (lv_at hl 1 rfl) ?_
                    refine lv_iload hx hb dX12_boosts_80 (lv_at hl 0 rfl) ?_
                    refine lv_ishr hx hb dX12_boosts_82 ?_
                    refine lv_topi (fun x46 (e46 : x46 = m4 >>> (m5 &&& 31)) => ?_)
                    refine lv_iconst (v := 1) hx hb dX12_boosts_83 (by decide) ?_
                    refine lv_iand hx hb dX12_boosts_84 ?_
                    refine lv_topi (fun x47 (e47 : x47 = x46 &&& 1) => ?_)
                    refine lv_iconst (v := 1) hx hb dX12_boosts_85 (by decide) ?_
                    refine lv_icmp_ne (tgt := 99) hx hb dX12_boosts_86 (by decide) (fun c48 => ?_) (fun c48 => ?_)
                    · have c48 : ¬ x47.toInt = 1 := tne rfl kp1 c48
                      refine lv_iconst (v := 0) hx hb dX12_boosts_99 (by decide) ?_
                      have hin : vp_in x45 20 := tin rfl (by omega)
                      refine rs_104 C hW (mm_ rfl) hin dX12_boosts_100 (fun H locs hW => ?_)
                      obtain ⟨x49, e49⟩ : ∃ y : Int32, y = m5 + 1 := ⟨_, rfl⟩
                      refine lv_iinc (v := x49) (lv' := [(5, .int x49), (4, .int m4), (3, .int m3), (2, .int r1), (0, .ref (g.2.2.1 13)), (1, .int a0)]) hx hb dX12_boosts_101 hl (k := 0) rfl (by rw [e49]; rfl) (by decide) rfl (fun ls hl => ?_)
                      try have t49 : x49.toInt = m5.toInt + 1 := tadd e49 rfl kp1 (by omega)
                      refine lv_goto (tgt := 58) hx hb dX12_boosts_104 (by decide) ?_
                      have hWl : WB g A s.heap H locs ((hv (hv J [100, 104, 146] [] Gl3) [104] [] (up2 (hv (hv J [100, 104, 146] [] Gl3) [104] [] Gl33) 104 x45.toNatClampNeg 0)), L, I, P, E, N) (sgM g) := by
                        rw [← ag_hvE (J := (hv J [100, 104, 146] [] Gl3)) (R := [104]) (F := []) (ag_up (Or.inl rfl) (ag_hv rfl rfl ag_rf))]
                        exact hW
                      refine ih58 x49 (up2 (hv (hv J [100, 104, 146] [] Gl3) [104] [] Gl33) 104 x45.toNatClampNeg 0) H locs ls ?_ ?_ ?_ ?_ hWl (lv_sub hl [0, 1, 2, 3, 4, 5] rfl)
                      · show (9 - x49.toInt).toNat < n58
                        omega
                      · show 0 ≤ x49.toInt ∧ x49.toInt ≤ (J 13 41).toInt
                        first | omega | exact hj | assumption
                      · show ∀ k : Nat, (∀ j : Nat, (j : Int) < (J 13 41).toInt → ¬ (J 125 j).toNatClampNeg = k) → (up2 Gl33 104 x45.toNatClampNeg 0) 104 k = J 104 k
                        (intro k hk; exact (up2_f _ _ _ (fun q => hk m5.toNatClampNeg (by have h8 := tcl m5; omega) (by rw [← e45]; exact q.symm))).trans (hf3 k hk))
                      · show RSP ((up2 Gl33 104 x45.toNatClampNeg 0) 104) ((Gl3 104)) (J 125) (J 126) m4 x49.toInt (J 13 32).toInt
                        exact rsp_m (i := m5.toInt) hrs e45 (by omega) (by omega) (by omega) (by rcases ib_shr (by omega) (by omega) e46 e47 with ⟨q1, q2⟩ | ⟨q1, q2⟩ <;> first | (exfalso; omega) | (rw [if_neg q2]; done) | (rw [if_pos q2]; rfl))
                    · have c48 : x47.toInt = 1 := teq rfl kp1 c48
                      refine lv_aload_n hx hb dX12_boosts_89 rfl (lv_at hl 4 rfl) ?_
                      refine rg_13_26 C hW (mm_ rfl) tw_1049 dX12_boosts_90 ?_
                      refine lv_iload hx hb dX12_boosts_93 (lv_at hl 0 rfl) ?_
                      have hin : vp_in m5 9 := tin rfl (by omega)
                      refine ra_126 C hW (mm_ rfl) hin dX12_boosts_95 ?_
                      refine lv_topi (fun x50 (e50 : x50 = J 126 m5.toNatClampNeg) => ?_)
                      have t50 : x50.toInt = (J 126 m5.toNatClampNeg).toInt := by rw [e50]
                      refine lv_goto (tgt := 100) hx hb dX12_boosts_96 (by decide) ?_
                      have hin : vp_in x45 20 := tin rfl (by omega)
                      refine rs_104 C hW (mm_ rfl) hin dX12_boosts_100 (fun H locs hW => ?_)
                      obtain ⟨x51, e51⟩ : ∃ y : Int32, y = m5 + 1 := ⟨_, rfl⟩
                      refine lv_iinc (v := x51) (lv' := [(5, .int x51), (4, .int m4), (3, .int m3), (2, .int r1), (0, .ref (g.2.2.1 13)), (1, .int a0)]) hx hb dX12_boosts_101 hl (k := 0) rfl (by rw [e51]; rfl) (by decide) rfl (fun ls hl => ?_)
                      try have t51 : x51.toInt = m5.toInt + 1 := tadd e51 rfl kp1 (by omega)
                      refine lv_goto (tgt := 58) hx hb dX12_boosts_104 (by decide) ?_
                      have hWl : WB g A s.heap H locs ((hv (hv J [100, 104, 146] [] Gl3) [104] [] (up2 (hv (hv J [100, 104, 146] [] Gl3) [104] [] Gl33) 104 x45.toNatClampNeg x50)), L, I, P, E, N) (sgM g) := by
                        rw [← ag_hvE (J := (hv J [100, 104, 146] [] Gl3)) (R := [104]) (F := []) (ag_up (Or.inl rfl) (ag_hv rfl rfl ag_rf))]
                        exact hW
                      refine ih58 x51 (up2 (hv (hv J [100, 104, 146] [] Gl3) [104] [] Gl33) 104 x45.toNatClampNeg x50) H locs ls ?_ ?_ ?_ ?_ hWl (lv_sub hl [0, 1, 2, 3, 4, 5] rfl)
                      · show (9 - x51.toInt).toNat < n58
                        omega
                      · show 0 ≤ x51.toInt ∧ x51.toInt ≤ (J 13 41).toInt
                        first | omega | exact hj | assumption
                      · show ∀ k : Nat, (∀ j : Nat, (j : Int) < (J 13 41).toInt → ¬ (J 125 j).toNatClampNeg = k) → (up2 Gl33 104 x45.toNatClampNeg x50) 104 k = J 104 k
                        (intro k hk; exact (up2_f _ _ _ (fun q => hk m5.toNatClampNeg (by have h8 := tcl m5; omega) (by rw [← e45]; exact q.symm))).trans (hf3 k hk))
                      · show RSP ((up2 Gl33 104 x45.toNatClampNeg x50) 104) ((Gl3 104)) (J 125) (J 126) m4 x51.toInt (J 13 32).toInt
                        exact rsp_m (i := m5.toInt) hrs e45 (by omega) (by omega) (by omega) (by rcases ib_shr (by omega) (by omega) e46 e47 with ⟨q1, q2⟩ | ⟨q1, q2⟩ <;> first | (exfalso; omega) | (rw [if_neg q2]; done) | (rw [if_pos q2]; exact e50))
              -- into the loop
              have hWl : WB g A s.heap H locs ((hv (hv J [100, 104, 146] [] Gl3) [104] [] (hv J [100, 104, 146] [] Gl3)), L, I, P, E, N) (sgM g) := by
                rw [← ag_hvE (J := (hv J [100, 104, 146] [] Gl3)) (R := [104]) (F := []) ag_rf]
                exact hW
              refine loop58 ((9 - (0 : Int32).toInt).toNat + 1) 0 (hv J [100, 104, 146] [] Gl3) H locs ls ?_ ?_ ?_ ?_ hWl (lv_sub hl [0, 1, 2, 3, 4, 5] rfl)
              · exact Nat.lt_succ_self _
              · show 0 ≤ (0 : Int32).toInt ∧ (0 : Int32).toInt ≤ (J 13 41).toInt
                try rw [kp0]
                first | omega | exact hj | assumption
              · show ∀ k : Nat, (∀ j : Nat, (j : Int) < (J 13 41).toInt → ¬ (J 125 j).toNatClampNeg = k) → Gl3 104 k = J 104 k
                try rw [kp0]
                exact hf2
              · show RSP (Gl3 104) ((Gl3 104)) (J 125) (J 126) m4 (0 : Int32).toInt (J 13 32).toInt
                try rw [kp0]
                exact rsp_0 (by first | rfl | exact kp0)
            · have c32 : r31.toInt ≤ r30.toInt := tnlt rfl rfl c32
              refine lv_goto (tgt := 163) hx hb dX12_boosts_52 (by decide) ?_
              obtain ⟨x52, e52⟩ : ∃ y : Int32, y = m4 + 1 := ⟨_, rfl⟩
              refine lv_iinc (v := x52) (lv' := [(4, .int x52), (3, .int m3), (2, .int r1), (0, .ref (g.2.2.1 13)), (1, .int a0)]) hx hb dX12_boosts_163 hl (k := 0) rfl (by rw [e52]; rfl) (by decide) rfl (fun ls hl => ?_)
              try have t52 : x52.toInt = m4.toInt + 1 := tadd e52 rfl kp1 (by omega)
              refine lv_goto (tgt := 25) hx hb dX12_boosts_166 (by decide) ?_
              have hWl : WB g A s.heap H locs ((hv J [100, 104, 146] [] (hv J [100, 104, 146] [] Gl3)), L, I, P, E, N) (sgM g) := by
                rw [← ag_hvE (J := J) (R := [100, 104, 146]) (F := []) (ag_hv rfl rfl ag_rf)]
                exact hW
              refine ih m3 x52 (hv J [100, 104, 146] [] Gl3) H locs ls ?_ ?_ ?_ ?_ hWl (lv_sub hl [0, 1, 2, 3, 4] rfl)
              · show (2000000 - x52.toInt).toNat < n
                omega
              · show 0 ≤ x52.toInt ∧ x52.toInt ≤ ((2 ^ (J 13 41).toInt.toNat : Nat) : Int)
                first | omega | exact hi | assumption
              · show ∀ k : Nat, (∀ j : Nat, (j : Int) < (J 13 41).toInt → ¬ (J 125 j).toNatClampNeg = k) → Gl3 104 k = J 104 k
                first | exact hf2 | exact hf3
              · show RBS m3 (BSF (fun t => (∃ y : Nat → Int32, SND y (J 101) (J 102) (J 103) (EXS (J 125) (J 126) (Int32.ofNat t) (J 13 41).toInt.toNat) (fun k => 0 ≤ (-1 : Int32).toInt ∧ CUTP (J 105) (J 106) (J 107) (J 13 34).toInt (-1 : Int32).toInt k) a0 (J 13 33) (J 13 32).toInt ∧ HALM y (J 109) (J 108) (J 13 36) (J 13 35).toInt)) (fun t => CB t 32) (fun t => (t : Int)) x52.toInt.toNat)
                (have e9 : (x52).toInt.toNat = m4.toInt.toNat + 1 := (by omega); rw [e9]; exact rbs_n (s := m4) hbs (show CB m4.toInt.toNat 32 = CB (tN m4) 32 by rw [tN_tn (a := m4) (by omega)]) (Or.inr ⟨by omega, by omega⟩))
    -- into the loop
    have hWl : WB g A s.heap H locs ((hv J [100, 104, 146] [] J), L, I, P, E, N) (sgM g) := by
      rw [← ag_hvE (J := J) (R := [100, 104, 146]) (F := []) ag_rf]
      exact hW
    refine loop25 ((2000000 - (0 : Int32).toInt).toNat + 1) (-9) 0 J H locs ls ?_ ?_ ?_ ?_ hWl (lv_sub hl [0, 1, 2, 3, 4] rfl)
    · exact Nat.lt_succ_self _
    · show 0 ≤ (0 : Int32).toInt ∧ (0 : Int32).toInt ≤ ((2 ^ (J 13 41).toInt.toNat : Nat) : Int)
      try rw [kn9]
      try rw [kp0]
      (have h9 : 0 < 2 ^ (J 13 41).toInt.toNat := Nat.pow_pos (by decide); first | omega | exact ⟨by decide, by omega⟩)
    · show ∀ k : Nat, (∀ j : Nat, (j : Int) < (J 13 41).toInt → ¬ (J 125 j).toNatClampNeg = k) → J 104 k = J 104 k
      try rw [kn9]
      try rw [kp0]
      exact fun _ _ => rfl
    · show RBS ((-9) : Int32) (BSF (fun t => (∃ y : Nat → Int32, SND y (J 101) (J 102) (J 103) (EXS (J 125) (J 126) (Int32.ofNat t) (J 13 41).toInt.toNat) (fun k => 0 ≤ (-1 : Int32).toInt ∧ CUTP (J 105) (J 106) (J 107) (J 13 34).toInt (-1 : Int32).toInt k) a0 (J 13 33) (J 13 32).toInt ∧ HALM y (J 109) (J 108) (J 13 36) (J 13 35).toInt)) (fun t => CB t 32) (fun t => (t : Int)) (0 : Int32).toInt.toNat)
      try rw [kn9]
      try rw [kp0]
      exact rbs_0 (by decide)
  · have c2 : ¬ r1.toInt = 0 := tne rfl kp0 c2
    refine lv_aload_n hx hb dX12_boosts_13 rfl (lv_at hl 1 rfl) ?_
    refine lv_iload_n hx hb dX12_boosts_14 rfl (lv_at hl 0 rfl) ?_
    refine ci_ C hW (runV (x := (g.2.2.1 13)) (As := [.int r1]) (rest := []) (T := ((J, L, I, P, E, N), sgM g)) C hW (c_X12_refuse l g J L I P E N H.size r1 (show -6 ≤ r1.toInt ∧ r1.toInt ≤ -1 from by omega)) mi_X12_refuse tw_1239 (recv_ (T := ((J, L, I, P, E, N), sgM g)) C hW (mm_ rfl) rfl rfl) ⟨rfl, rfl, Nat.le_of_ble_eq_true rfl, Nat.le_of_ble_eq_true rfl⟩ rfl hl.1 rfl (Nat.le_of_ble_eq_true rfl) dX12_boosts_15 ⟨Nat.le_of_ble_eq_true rfl, Nat.le_of_ble_eq_true rfl⟩) (fun r53 u53 H locs hp53 hW => ?_)
    have hc53 : ((r53 = r1)) := hp53
    clear hp53
    have hr53 : r53.toInt = (r1).toInt := by rw [hc53]
    have hW : WB g A s.heap H locs ((hv J [100] [] u53), L, I, P, E, N) (sgM g) := hW
    have hWr : WB g A s.heap H locs (hv J [100, 104, 146] [] (hv J [100] [] u53), L, I, P, E, N) (sgM g) := by
      rw [← ag_hvE (J := J) (R := [100, 104, 146]) (F := []) (ag_hv rfl rfl ag_rf)]
      exact hW
    subst hQ9
    exact end_i C hr hlocks (hv J [100] [] u53) hWr ⟨by first | exact Or.inl ⟨by omega, by omega⟩ | exact Or.inr (Or.inl ⟨by omega, by omega⟩) | (rcases hc1 with qhc1 | qhc1 | qhc1 <;> first | exact Or.inl ⟨by omega, by omega⟩ | exact Or.inr (Or.inl ⟨by omega, by omega⟩) | (exfalso; omega)), show (∀ k : Nat, J 104 k = 0) → ∀ k : Nat, J 104 k = 0 from by first | exact fun h => h | exact fun h k => (by by_cases q : ∃ j : Nat, (j : Int) < (J 13 41).toInt ∧ (J 125 j).toNatClampNeg = k; obtain ⟨j, q1, q2⟩ := q; rw [← q2]; exact hz4 j (by omega); exact (hf4 k (fun j h1 h2 => q ⟨j, h1, h2⟩)).trans (h k))⟩ dX12_boosts_18

set_option maxHeartbeats 4000000 in
set_option maxRecDepth 100000 in
theorem c_X12_could_b (l : Launch) (g : gG) (J : Nat → Nat → Int32) (L : Nat → Nat → Int64) (I : Nat → Nat → Nat → Int32) (P : Nat → Nat → Nat → Option Nat) (E : Nat → Option Nat) (N : Nat → Nat) (sz : Nat) (a0 : Int32) (a1 : Int32) (hwm : WM J) : Met l yX12_could (WS yX12_could cX12_could 4 (some .int)) (RM (3) 0 0) (PC g [.ref (g.2.2.1 13), .int a0, .int a1] ((J, L, I, P, E, N), sgM g) sz) (va_Qi (fun (r : Int32) (u : (Nat → Nat → Int32)) => WM (hv J [100, 125, 126] [(13, 41)] u) ∧ ((r.toInt = (-1) ∧ (¬ (0 ≤ a0.toInt ∧ a0.toInt < (J 13 32).toInt)) ∧ u 13 41 = J 13 41 ∧ u 125 = J 125 ∧ u 126 = J 126) ∨ (r.toInt = (-3) ∧ (0 ≤ a0.toInt ∧ a0.toInt < (J 13 32).toInt) ∧ u 13 41 = J 13 41 ∧ u 125 = J 125 ∧ u 126 = J 126 ∧ (∃ k : Nat, (k : Int) < (J 13 41).toInt ∧ (J 125 k).toInt = a0.toInt)) ∨ (r.toInt = (-4) ∧ (0 ≤ a0.toInt ∧ a0.toInt < (J 13 32).toInt ∧ a1.toInt < 1) ∧ u 13 41 = J 13 41 ∧ u 125 = J 125 ∧ u 126 = J 126 ∧ (∀ k : Nat, (k : Int) < (J 13 41).toInt → ¬ (J 125 k).toInt = a0.toInt)) ∨ (r.toInt = (-6) ∧ (0 ≤ a0.toInt ∧ a0.toInt < (J 13 32).toInt ∧ 1 ≤ a1.toInt ∧ (99 < a1.toInt ∨ (J 13 41).toInt = 9)) ∧ u 13 41 = J 13 41 ∧ u 125 = J 125 ∧ u 126 = J 126 ∧ (∀ k : Nat, (k : Int) < (J 13 41).toInt → ¬ (J 125 k).toInt = a0.toInt)) ∨ (r.toInt = (J 13 41).toInt ∧ (0 ≤ a0.toInt ∧ a0.toInt < (J 13 32).toInt ∧ 1 ≤ a1.toInt ∧ a1.toInt ≤ 99 ∧ (J 13 41).toInt ≤ 8) ∧ (u 13 41).toInt = (J 13 41).toInt + 1 ∧ u 125 = up2 J 125 (J 13 41).toNatClampNeg a0 125 ∧ u 126 = up2 J 126 (J 13 41).toNatClampNeg a1 126 ∧ (∀ k : Nat, (k : Int) < (J 13 41).toInt → ¬ (J 125 k).toInt = a0.toInt)))) (fun u t => at_ g (FR g ((J, L, I, P, E, N), sgM g) sz) ((hv J [100, 125, 126] [(13, 41)] u, L, I, P, E, N), sgM g) t) (FR g ((J, L, I, P, E, N), sgM g) sz)) 0 0 (FR g ((J, L, I, P, E, N), sgM g) sz) := by
  refine ent (by decide +kernel) (Nat.le_of_ble_eq_true rfl) ?_
  intro p e s m below meth c ls hsz C hW hr hlocks hname hl
  generalize FR g ((J, L, I, P, E, N), sgM g) sz = A at C hW ⊢
  generalize hQ9 : (va_Qi (fun (r : Int32) (u : (Nat → Nat → Int32)) => WM (hv J [100, 125, 126] [(13, 41)] u) ∧ ((r.toInt = (-1) ∧ (¬ (0 ≤ a0.toInt ∧ a0.toInt < (J 13 32).toInt)) ∧ u 13 41 = J 13 41 ∧ u 125 = J 125 ∧ u 126 = J 126) ∨ (r.toInt = (-3) ∧ (0 ≤ a0.toInt ∧ a0.toInt < (J 13 32).toInt) ∧ u 13 41 = J 13 41 ∧ u 125 = J 125 ∧ u 126 = J 126 ∧ (∃ k : Nat, (k : Int) < (J 13 41).toInt ∧ (J 125 k).toInt = a0.toInt)) ∨ (r.toInt = (-4) ∧ (0 ≤ a0.toInt ∧ a0.toInt < (J 13 32).toInt ∧ a1.toInt < 1) ∧ u 13 41 = J 13 41 ∧ u 125 = J 125 ∧ u 126 = J 126 ∧ (∀ k : Nat, (k : Int) < (J 13 41).toInt → ¬ (J 125 k).toInt = a0.toInt)) ∨ (r.toInt = (-6) ∧ (0 ≤ a0.toInt ∧ a0.toInt < (J 13 32).toInt ∧ 1 ≤ a1.toInt ∧ (99 < a1.toInt ∨ (J 13 41).toInt = 9)) ∧ u 13 41 = J 13 41 ∧ u 125 = J 125 ∧ u 126 = J 126 ∧ (∀ k : Nat, (k : Int) < (J 13 41).toInt → ¬ (J 125 k).toInt = a0.toInt)) ∨ (r.toInt = (J 13 41).toInt ∧ (0 ≤ a0.toInt ∧ a0.toInt < (J 13 32).toInt ∧ 1 ≤ a1.toInt ∧ a1.toInt ≤ 99 ∧ (J 13 41).toInt ≤ 8) ∧ (u 13 41).toInt = (J 13 41).toInt + 1 ∧ u 125 = up2 J 125 (J 13 41).toNatClampNeg a0 125 ∧ u 126 = up2 J 126 (J 13 41).toNatClampNeg a1 126 ∧ (∀ k : Nat, (k : Int) < (J 13 41).toInt → ¬ (J 125 k).toInt = a0.toInt)))) (fun u t => at_ g A ((hv J [100, 125, 126] [(13, 41)] u, L, I, P, E, N), sgM g) t) A) = Q9
  have hx := C.1.1
  have hb := C.1.2.1
  have hts := C.1.2.2.2.2
  have hW : WB g A s.heap s.heap [] (J, L, I, P, E, N) (sgM g) := hW
  have hl : lv_has ls 4 [(0, .ref (g.2.2.1 13)), (1, .int a0), (2, .int a1)] := hl
  obtain ⟨H, hH⟩ : ∃ H : Heap, H = s.heap := ⟨_, rfl⟩
  obtain ⟨locs, hlocs⟩ : ∃ q : List Loc, q = [] := ⟨_, rfl⟩
  have hW : WB g A s.heap H locs (J, L, I, P, E, N) (sgM g) := by rw [hH, hlocs]; exact hW
  obtain ⟨⟨hnd1, hnd2, hon, hhm1, hhm2, hhN, hcu1, hcu2, hco1, hco2, hcN⟩, ⟨hrd1, hrd2⟩, ⟨hnw1, hnw2, hns1, hns2, hof⟩, ⟨htm1, htm2, hts_⟩, ⟨had1, had2, hrw1, hrw2, htp1, htp2⟩⟩ := id hwm
  refine start_ hH hlocs ?_
  refine lv_aload_n hx hb dX12_could_0 rfl (lv_at hl 0 rfl) ?_
  refine lv_iload_n hx hb dX12_could_1 rfl (lv_at hl 1 rfl) ?_
  refine ci_ C hW (runV (x := (g.2.2.1 13)) (As := [.int a0]) (rest := []) (T := ((J, L, I, P, E, N), sgM g)) C hW (c_X12_isNode l g J L I P E N H.size a0 hwm) mi_X12_isNode tw_1251 (recv_ (T := ((J, L, I, P, E, N), sgM g)) C hW (mm_ rfl) rfl rfl) ⟨rfl, rfl, Nat.le_of_ble_eq_true rfl, Nat.le_of_ble_eq_true rfl⟩ rfl hl.1 rfl (Nat.le_of_ble_eq_true rfl) dX12_could_2 ⟨Nat.le_of_ble_eq_true rfl, Nat.le_of_ble_eq_true rfl⟩) (fun r1 u1 H locs hp1 hW => ?_)
  have hc1 : ((r1.toInt = 1 ∧ (0 ≤ a0.toInt ∧ a0.toInt < (J 13 32).toInt)) ∨ (r1.toInt = 0 ∧ (¬ (0 ≤ a0.toInt ∧ a0.toInt < (J 13 32).toInt)))) := hp1
  clear hp1
  have hW : WB g A s.heap H locs (J, L, I, P, E, N) (sgM g) := hW
  refine lv_if_ne (tgt := 14) hx hb dX12_could_5 (by decide) (fun c2 => ?_) (fun c2 => ?_)
  · have c2 : ¬ r1.toInt = 0 := tne rfl kp0 c2
    refine lv_iconst (v := 0) hx hb dX12_could_14 (by decide) ?_
    refine lv_istore_n (lv' := [(3, .int 0), (0, .ref (g.2.2.1 13)), (1, .int a0), (2, .int a1)]) hx hb dX12_could_15 rfl hl (by decide) rfl (fun ls hl => ?_)
    have loop16 : ∀ (n : Nat) (m3 : Int32) (H : Heap) (locs : List Loc) (ls : Array Slot), (9 - m3.toInt).toNat < n → 0 ≤ m3.toInt ∧ m3.toInt ≤ (J 13 41).toInt → (∀ k : Nat, (k : Int) < m3.toInt → ¬ (J 125 k).toInt = a0.toInt) → WB g A s.heap H locs (J, L, I, P, E, N) (sgM g) → lv_has ls 4 [(3, .int m3), (0, .ref (g.2.2.1 13)), (1, .int a0), (2, .int a1)] → W p l e (RM (3) 0 0) s m ([.ref (g.2.2.1 13), .int a0, .int a1] : List Value).toArray below meth c H locs 0 0 (MQ below Q9 ([.ref (g.2.2.1 13), .int a0, .int a1] : List Value).toArray s 0 0 A) (F0 m 16 ls []) := by
      intro n
      induction n with
      | zero => intro m3 H locs ls hmeas; exact absurd hmeas (Nat.not_lt_zero _)
      | succ n ih =>
        intro m3 H locs ls hmeas hi hno hW hl
        refine lv_iload_n hx hb dX12_could_16 rfl (lv_at hl 0 rfl) ?_
        refine lv_aload_n hx hb dX12_could_17 rfl (lv_at hl 1 rfl) ?_
        refine rg_13_41 C hW (mm_ rfl) tw_1064 dX12_could_18 ?_
        refine lv_icmp_ge (tgt := 47) hx hb dX12_could_21 (by decide) (fun c3 => ?_) (fun c3 => ?_)
        · have c3 : (J 13 41).toInt ≤ m3.toInt := tle rfl rfl c3
          refine lv_iload_n hx hb dX12_could_47 rfl (lv_at hl 3 rfl) ?_
          refine lv_iconst (v := 1) hx hb dX12_could_48 (by decide) ?_
          refine lv_bipush (v := 99) hx hb dX12_could_49 (by decide) ?_
          refine ci_ C hW (runS (As := [.int a1, .int 1, .int 99]) (rest := []) (T := ((J, L, I, P, E, N), sgM g)) C hW (c_X12_within l g J L I P E N H.size a1 1 99 ) mi_X12_within tw_1258 ⟨rfl, rfl, Nat.le_of_ble_eq_true rfl, Nat.le_of_ble_eq_true rfl⟩ rfl hl.1 rfl (Nat.le_of_ble_eq_true rfl) dX12_could_51 ⟨Nat.le_of_ble_eq_true rfl, Nat.le_of_ble_eq_true rfl⟩) (fun r4 u4 H locs hp4 hW => ?_)
          have hc4 : ((r4.toInt = (-4) ∧ (a1.toInt < 1)) ∨ (r4.toInt = (-6) ∧ (1 ≤ a1.toInt ∧ 99 < a1.toInt)) ∨ (r4.toInt = 0 ∧ (1 ≤ a1.toInt ∧ a1.toInt ≤ 99))) := hp4
          clear hp4
          have hW : WB g A s.heap H locs (J, L, I, P, E, N) (sgM g) := hW
          refine lv_istore_n (lv' := [(3, .int r4), (0, .ref (g.2.2.1 13)), (1, .int a0), (2, .int a1)]) hx hb dX12_could_54 rfl hl (by decide) rfl (fun ls hl => ?_)
          refine lv_iload_n hx hb dX12_could_55 rfl (lv_at hl 0 rfl) ?_
          refine lv_if_ne (tgt := 71) hx hb dX12_could_56 (by decide) (fun c5 => ?_) (fun c5 => ?_)
          · have c5 : ¬ r4.toInt = 0 := tne rfl kp0 c5
            refine lv_iload_n hx hb dX12_could_71 rfl (lv_at hl 0 rfl) ?_
            refine lv_if_eq (tgt := 81) hx hb dX12_could_72 (by decide) (fun c6 => ?_) (fun c6 => ?_)
            · have c6 : r4.toInt = 0 := teq rfl kp0 c6
              exfalso; omega
            · have c6 : ¬ r4.toInt = 0 := tne rfl kp0 c6
              refine lv_aload_n hx hb dX12_could_75 rfl (lv_at hl 1 rfl) ?_
              refine lv_iload_n hx hb dX12_could_76 rfl (lv_at hl 0 rfl) ?_
              refine ci_ C hW (runV (x := (g.2.2.1 13)) (As := [.int r4]) (rest := []) (T := ((J, L, I, P, E, N), sgM g)) C hW (c_X12_refuse l g J L I P E N H.size r4 (show -6 ≤ r4.toInt ∧ r4.toInt ≤ -1 from by omega)) mi_X12_refuse tw_1239 (recv_ (T := ((J, L, I, P, E, N), sgM g)) C hW (mm_ rfl) rfl rfl) ⟨rfl, rfl, Nat.le_of_ble_eq_true rfl, Nat.le_of_ble_eq_true rfl⟩ rfl hl.1 rfl (Nat.le_of_ble_eq_true rfl) dX12_could_77 ⟨Nat.le_of_ble_eq_true rfl, Nat.le_of_ble_eq_true rfl⟩) (fun r7 u7 H locs hp7 hW => ?_)
              have hc7 : ((r7 = r4)) := hp7
              clear hp7
              have hr7 : r7.toInt = (r4).toInt := by rw [hc7]
              have hW : WB g A s.heap H locs ((hv J [100] [] u7), L, I, P, E, N) (sgM g) := hW
              have hWr : WB g A s.heap H locs (hv J [100, 125, 126] [(13, 41)] (hv J [100] [] u7), L, I, P, E, N) (sgM g) := by
                rw [← ag_hvE (J := J) (R := [100, 125, 126]) (F := [(13, 41)]) (ag_hv rfl rfl ag_rf)]
                exact hW
              have hwmr : WM (hv J [100] [] u7) := by first | exact hwm | exact wm_could hwm (tcl _) (by omega) (by omega) (by omega)
              have hwmr : WM (hv J [100, 125, 126] [(13, 41)] (hv J [100] [] u7)) := by
                rw [← ag_hvE (J := J) (R := [100, 125, 126]) (F := [(13, 41)]) (ag_hv rfl rfl ag_rf)]; exact hwmr
              subst hQ9
              exact end_i C hr hlocks (hv J [100] [] u7) hWr ⟨hwmr, by first | exact Or.inl ⟨by omega, by omega, show J 13 41 = J 13 41 from by first | rfl | assumption, show J 125 = J 125 from by first | rfl | assumption, show J 126 = J 126 from by first | rfl | assumption⟩ | exact Or.inr (Or.inl ⟨by omega, by omega, show J 13 41 = J 13 41 from by first | rfl | exact ⟨m3.toNatClampNeg, by have := tcl m3; omega, by omega⟩, show J 125 = J 125 from by first | rfl | exact ⟨m3.toNatClampNeg, by have := tcl m3; omega, by omega⟩, show J 126 = J 126 from by first | rfl | exact ⟨m3.toNatClampNeg, by have := tcl m3; omega, by omega⟩, show (∃ k : Nat, (k : Int) < (J 13 41).toInt ∧ (J 125 k).toInt = a0.toInt) from by first | rfl | exact ⟨m3.toNatClampNeg, by have := tcl m3; omega, by omega⟩⟩) | exact Or.inr (Or.inr (Or.inl ⟨by omega, by omega, show J 13 41 = J 13 41 from by first | rfl | (intro k hk; exact hno k (by omega)), show J 125 = J 125 from by first | rfl | (intro k hk; exact hno k (by omega)), show J 126 = J 126 from by first | rfl | (intro k hk; exact hno k (by omega)), show (∀ k : Nat, (k : Int) < (J 13 41).toInt → ¬ (J 125 k).toInt = a0.toInt) from by first | rfl | (intro k hk; exact hno k (by omega))⟩)) | exact Or.inr (Or.inr (Or.inr (Or.inl ⟨by omega, by omega, show J 13 41 = J 13 41 from by first | rfl | (intro k hk; exact hno k (by omega)), show J 125 = J 125 from by first | rfl | (intro k hk; exact hno k (by omega)), show J 126 = J 126 from by first | rfl | (intro k hk; exact hno k (by omega)), show (∀ k : Nat, (k : Int) < (J 13 41).toInt → ¬ (J 125 k).toInt = a0.toInt) from by first | rfl | (intro k hk; exact hno k (by omega))⟩))) | exact Or.inr (Or.inr (Or.inr (Or.inr (⟨by omega, by omega, show (J 13 41).toInt = (J 13 41).toInt + 1 from by first | rfl | (intro k hk; exact hno k (by omega)) | omega, show J 125 = up2 J 125 (J 13 41).toNatClampNeg a0 125 from by first | rfl | (intro k hk; exact hno k (by omega)) | omega, show J 126 = up2 J 126 (J 13 41).toNatClampNeg a1 126 from by first | rfl | (intro k hk; exact hno k (by omega)) | omega, show (∀ k : Nat, (k : Int) < (J 13 41).toInt → ¬ (J 125 k).toInt = a0.toInt) from by first | rfl | (intro k hk; exact hno k (by omega)) | omega⟩)))) | (rcases hc1 with qhc1 | qhc1 <;> rcases hc4 with qhc4 | qhc4 | qhc4 <;> first | exact Or.inl ⟨by omega, by omega, show J 13 41 = J 13 41 from by first | rfl | assumption, show J 125 = J 125 from by first | rfl | assumption, show J 126 = J 126 from by first | rfl | assumption⟩ | exact Or.inr (Or.inl ⟨by omega, by omega, show J 13 41 = J 13 41 from by first | rfl | exact ⟨m3.toNatClampNeg, by have := tcl m3; omega, by omega⟩, show J 125 = J 125 from by first | rfl | exact ⟨m3.toNatClampNeg, by have := tcl m3; omega, by omega⟩, show J 126 = J 126 from by first | rfl | exact ⟨m3.toNatClampNeg, by have := tcl m3; omega, by omega⟩, show (∃ k : Nat, (k : Int) < (J 13 41).toInt ∧ (J 125 k).toInt = a0.toInt) from by first | rfl | exact ⟨m3.toNatClampNeg, by have := tcl m3; omega, by omega⟩⟩) | exact Or.inr (Or.inr (Or.inl ⟨by omega, by omega, show J 13 41 = J 13 41 from by first | rfl | (intro k hk; exact hno k (by omega)), show J 125 = J 125 from by first | rfl | (intro k hk; exact hno k (by omega)), show J 126 = J 126 from by first | rfl | (intro k hk; exact hno k (by omega)), show (∀ k : Nat, (k : Int) < (J 13 41).toInt → ¬ (J 125 k).toInt = a0.toInt) from by first | rfl | (intro k hk; exact hno k (by omega))⟩)) | exact Or.inr (Or.inr (Or.inr (Or.inl ⟨by omega, by omega, show J 13 41 = J 13 41 from by first | rfl | (intro k hk; exact hno k (by omega)), show J 125 = J 125 from by first | rfl | (intro k hk; exact hno k (by omega)), show J 126 = J 126 from by first | rfl | (intro k hk; exact hno k (by omega)), show (∀ k : Nat, (k : Int) < (J 13 41).toInt → ¬ (J 125 k).toInt = a0.toInt) from by first | rfl | (intro k hk; exact hno k (by omega))⟩))) | exact Or.inr (Or.inr (Or.inr (Or.inr (⟨by omega, by omega, show (J 13 41).toInt = (J 13 41).toInt + 1 from by first | rfl | (intro k hk; exact hno k (by omega)) | omega, show J 125 = up2 J 125 (J 13 41).toNatClampNeg a0 125 from by first | rfl | (intro k hk; exact hno k (by omega)) | omega, show J 126 = up2 J 126 (J 13 41).toNatClampNeg a1 126 from by first | rfl | (intro k hk; exact hno k (by omega)) | omega, show (∀ k : Nat, (k : Int) < (J 13 41).toInt → ¬ (J 125 k).toInt = a0.toInt) from by first | rfl | (intro k hk; exact hno k (by omega)) | omega⟩)))) | (exfalso; omega))⟩ dX12_could_80
          · have c5 : r4.toInt = 0 := teq rfl kp0 c5
            refine lv_aload_n hx hb dX12_could_59 rfl (lv_at hl 1 rfl) ?_
            refine rg_13_41 C hW (mm_ rfl) tw_1064 dX12_could_60 ?_
            refine lv_bipush (v := 9) hx hb dX12_could_63 (by decide) ?_
            refine lv_icmp_ne (tgt := 71) hx hb dX12_could_65 (by decide) (fun c8 => ?_) (fun c8 => ?_)
            · have c8 : ¬ (J 13 41).toInt = 9 := tne rfl kp9 c8
              refine lv_iload_n hx hb dX12_could_71 rfl (lv_at hl 0 rfl) ?_
              refine lv_if_eq (tgt := 81) hx hb dX12_could_72 (by decide) (fun c9 => ?_) (fun c9 => ?_)
              · have c9 : r4.toInt = 0 := teq rfl kp0 c9
                refine lv_aload_n hx hb dX12_could_81 rfl (lv_at hl 1 rfl) ?_
                refine rg_13_25 C hW (mm_ rfl) tw_1048 dX12_could_82 ?_
                refine lv_aload_n hx hb dX12_could_85 rfl (lv_at hl 1 rfl) ?_
                refine rg_13_41 C hW (mm_ rfl) tw_1064 dX12_could_86 ?_
                refine lv_iload_n hx hb dX12_could_89 rfl (lv_at hl 2 rfl) ?_
                have hin : vp_in (J 13 41) 9 := tin rfl (by omega)
                refine rs_125 C hW (mm_ rfl) hin dX12_could_90 (fun H locs hW => ?_)
                refine lv_aload_n hx hb dX12_could_91 rfl (lv_at hl 1 rfl) ?_
                refine rg_13_26 C hW (mm_ rfl) tw_1049 dX12_could_92 ?_
                refine lv_aload_n hx hb dX12_could_95 rfl (lv_at hl 1 rfl) ?_
                refine rg_13_41 C hW (mm_ rfl) tw_1064 dX12_could_96 ?_
                refine lv_as (J 13 41) rfl ?_
                refine lv_iload_n hx hb dX12_could_99 rfl (lv_at hl 3 rfl) ?_
                have hin : vp_in (J 13 41) 9 := tin rfl (by omega)
                refine rs_126 C hW (mm_ rfl) hin dX12_could_100 (fun H locs hW => ?_)
                refine lv_aload_n hx hb dX12_could_101 rfl (lv_at hl 1 rfl) ?_
                refine lv_dup hx hb dX12_could_102 rfl ?_
                refine rg_13_41 C hW (mm_ rfl) tw_1064 dX12_could_103 ?_
                refine lv_as (J 13 41) rfl ?_
                refine lv_iconst (v := 1) hx hb dX12_could_106 (by decide) ?_
                refine lv_iadd hx hb dX12_could_107 ?_
                refine lv_topi (fun x10 (e10 : x10 = (J 13 41) + 1) => ?_)
                try have t10 : x10.toInt = (J 13 41).toInt + 1 := tadd e10 rfl kp1 (by omega)
                refine rp_13_41 C hW (mm_ rfl) tw_1064 dX12_could_108 (fun H locs hW => ?_)
                refine lv_aload_n hx hb dX12_could_111 rfl (lv_at hl 1 rfl) ?_
                refine rg_13_41 C hW (mm_ rfl) tw_1064 dX12_could_112 ?_
                refine lv_as x10 rfl ?_
                refine lv_iconst (v := 1) hx hb dX12_could_115 (by decide) ?_
                refine lv_isub hx hb dX12_could_116 ?_
                refine lv_topi (fun x11 (e11 : x11 = x10 - 1) => ?_)
                try have t11 : x11.toInt = x10.toInt - 1 := tsub e11 rfl kp1 (by omega)
                have hWr : WB g A s.heap H locs (hv J [100, 125, 126] [(13, 41)] (up2 (up2 (up2 J 125 ((J 13 41).toNatClampNeg) a0) 126 ((J 13 41).toNatClampNeg) a1) 13 41 x10), L, I, P, E, N) (sgM g) := by
                  rw [← ag_hvE (J := J) (R := [100, 125, 126]) (F := [(13, 41)]) (ag_up (Or.inr rfl) (ag_up (Or.inl rfl) (ag_up (Or.inl rfl) ag_rf)))]
                  exact hW
                have hwmr : WM (up2 (up2 (up2 J 125 ((J 13 41).toNatClampNeg) a0) 126 ((J 13 41).toNatClampNeg) a1) 13 41 x10) := by first | exact hwm | exact wm_could hwm (tcl _) (by omega) (by omega) (by omega)
                have hwmr : WM (hv J [100, 125, 126] [(13, 41)] (up2 (up2 (up2 J 125 ((J 13 41).toNatClampNeg) a0) 126 ((J 13 41).toNatClampNeg) a1) 13 41 x10)) := by
                  rw [← ag_hvE (J := J) (R := [100, 125, 126]) (F := [(13, 41)]) (ag_up (Or.inr rfl) (ag_up (Or.inl rfl) (ag_up (Or.inl rfl) ag_rf)))]; exact hwmr
                subst hQ9
                exact end_i C hr hlocks (up2 (up2 (up2 J 125 ((J 13 41).toNatClampNeg) a0) 126 ((J 13 41).toNatClampNeg) a1) 13 41 x10) hWr ⟨hwmr, by first | exact Or.inl ⟨by omega, by omega, show x10 = J 13 41 from by first | rfl | assumption, show (up2 J 125 ((J 13 41).toNatClampNeg) a0) 125 = J 125 from by first | rfl | assumption, show (up2 J 126 ((J 13 41).toNatClampNeg) a1) 126 = J 126 from by first | rfl | assumption⟩ | exact Or.inr (Or.inl ⟨by omega, by omega, show x10 = J 13 41 from by first | rfl | exact ⟨m3.toNatClampNeg, by have := tcl m3; omega, by omega⟩, show (up2 J 125 ((J 13 41).toNatClampNeg) a0) 125 = J 125 from by first | rfl | exact ⟨m3.toNatClampNeg, by have := tcl m3; omega, by omega⟩, show (up2 J 126 ((J 13 41).toNatClampNeg) a1) 126 = J 126 from by first | rfl | exact ⟨m3.toNatClampNeg, by have := tcl m3; omega, by omega⟩, show (∃ k : Nat, (k : Int) < (J 13 41).toInt ∧ (J 125 k).toInt = a0.toInt) from by first | rfl | exact ⟨m3.toNatClampNeg, by have := tcl m3; omega, by omega⟩⟩) | exact Or.inr (Or.inr (Or.inl ⟨by omega, by omega, show x10 = J 13 41 from by first | rfl | (intro k hk; exact hno k (by omega)), show (up2 J 125 ((J 13 41).toNatClampNeg) a0) 125 = J 125 from by first | rfl | (intro k hk; exact hno k (by omega)), show (up2 J 126 ((J 13 41).toNatClampNeg) a1) 126 = J 126 from by first | rfl | (intro k hk; exact hno k (by omega)), show (∀ k : Nat, (k : Int) < (J 13 41).toInt → ¬ (J 125 k).toInt = a0.toInt) from by first | rfl | (intro k hk; exact hno k (by omega))⟩)) | exact Or.inr (Or.inr (Or.inr (Or.inl ⟨by omega, by omega, show x10 = J 13 41 from by first | rfl | (intro k hk; exact hno k (by omega)), show (up2 J 125 ((J 13 41).toNatClampNeg) a0) 125 = J 125 from by first | rfl | (intro k hk; exact hno k (by omega)), show (up2 J 126 ((J 13 41).toNatClampNeg) a1) 126 = J 126 from by first | rfl | (intro k hk; exact hno k (by omega)), show (∀ k : Nat, (k : Int) < (J 13 41).toInt → ¬ (J 125 k).toInt = a0.toInt) from by first | rfl | (intro k hk; exact hno k (by omega))⟩))) | exact Or.inr (Or.inr (Or.inr (Or.inr (⟨by omega, by omega, show (x10).toInt = (J 13 41).toInt + 1 from by first | rfl | (intro k hk; exact hno k (by omega)) | omega, show (up2 J 125 ((J 13 41).toNatClampNeg) a0) 125 = up2 J 125 (J 13 41).toNatClampNeg a0 125 from by first | rfl | (intro k hk; exact hno k (by omega)) | omega, show (up2 J 126 ((J 13 41).toNatClampNeg) a1) 126 = up2 J 126 (J 13 41).toNatClampNeg a1 126 from by first | rfl | (intro k hk; exact hno k (by omega)) | omega, show (∀ k : Nat, (k : Int) < (J 13 41).toInt → ¬ (J 125 k).toInt = a0.toInt) from by first | rfl | (intro k hk; exact hno k (by omega)) | omega⟩)))) | (rcases hc1 with qhc1 | qhc1 <;> rcases hc4 with qhc4 | qhc4 | qhc4 <;> first | exact Or.inl ⟨by omega, by omega, show x10 = J 13 41 from by first | rfl | assumption, show (up2 J 125 ((J 13 41).toNatClampNeg) a0) 125 = J 125 from by first | rfl | assumption, show (up2 J 126 ((J 13 41).toNatClampNeg) a1) 126 = J 126 from by first | rfl | assumption⟩ | exact Or.inr (Or.inl ⟨by omega, by omega, show x10 = J 13 41 from by first | rfl | exact ⟨m3.toNatClampNeg, by have := tcl m3; omega, by omega⟩, show (up2 J 125 ((J 13 41).toNatClampNeg) a0) 125 = J 125 from by first | rfl | exact ⟨m3.toNatClampNeg, by have := tcl m3; omega, by omega⟩, show (up2 J 126 ((J 13 41).toNatClampNeg) a1) 126 = J 126 from by first | rfl | exact ⟨m3.toNatClampNeg, by have := tcl m3; omega, by omega⟩, show (∃ k : Nat, (k : Int) < (J 13 41).toInt ∧ (J 125 k).toInt = a0.toInt) from by first | rfl | exact ⟨m3.toNatClampNeg, by have := tcl m3; omega, by omega⟩⟩) | exact Or.inr (Or.inr (Or.inl ⟨by omega, by omega, show x10 = J 13 41 from by first | rfl | (intro k hk; exact hno k (by omega)), show (up2 J 125 ((J 13 41).toNatClampNeg) a0) 125 = J 125 from by first | rfl | (intro k hk; exact hno k (by omega)), show (up2 J 126 ((J 13 41).toNatClampNeg) a1) 126 = J 126 from by first | rfl | (intro k hk; exact hno k (by omega)), show (∀ k : Nat, (k : Int) < (J 13 41).toInt → ¬ (J 125 k).toInt = a0.toInt) from by first | rfl | (intro k hk; exact hno k (by omega))⟩)) | exact Or.inr (Or.inr (Or.inr (Or.inl ⟨by omega, by omega, show x10 = J 13 41 from by first | rfl | (intro k hk; exact hno k (by omega)), show (up2 J 125 ((J 13 41).toNatClampNeg) a0) 125 = J 125 from by first | rfl | (intro k hk; exact hno k (by omega)), show (up2 J 126 ((J 13 41).toNatClampNeg) a1) 126 = J 126 from by first | rfl | (intro k hk; exact hno k (by omega)), show (∀ k : Nat, (k : Int) < (J 13 41).toInt → ¬ (J 125 k).toInt = a0.toInt) from by first | rfl | (intro k hk; exact hno k (by omega))⟩))) | exact Or.inr (Or.inr (Or.inr (Or.inr (⟨by omega, by omega, show (x10).toInt = (J 13 41).toInt + 1 from by first | rfl | (intro k hk; exact hno k (by omega)) | omega, show (up2 J 125 ((J 13 41).toNatClampNeg) a0) 125 = up2 J 125 (J 13 41).toNatClampNeg a0 125 from by first | rfl | (intro k hk; exact hno k (by omega)) | omega, show (up2 J 126 ((J 13 41).toNatClampNeg) a1) 126 = up2 J 126 (J 13 41).toNatClampNeg a1 126 from by first | rfl | (intro k hk; exact hno k (by omega)) | omega, show (∀ k : Nat, (k : Int) < (J 13 41).toInt → ¬ (J 125 k).toInt = a0.toInt) from by first | rfl | (intro k hk; exact hno k (by omega)) | omega⟩)))) | (exfalso; omega))⟩ dX12_could_117
              · have c9 : ¬ r4.toInt = 0 := tne rfl kp0 c9
                exfalso; omega
            · have c8 : (J 13 41).toInt = 9 := teq rfl kp9 c8
              refine lv_bipush (v := (-6)) hx hb dX12_could_68 (by decide) ?_
              refine lv_istore_n (lv' := [(3, .int (-6)), (0, .ref (g.2.2.1 13)), (1, .int a0), (2, .int a1)]) hx hb dX12_could_70 rfl hl (by decide) rfl (fun ls hl => ?_)
              refine lv_iload_n hx hb dX12_could_71 rfl (lv_at hl 0 rfl) ?_
              refine lv_if_eq (tgt := 81) hx hb dX12_could_72 (by decide) (fun c12 => ?_) (fun c12 => ?_)
              · exact absurd c12 (by decide)
              · skip
                refine lv_aload_n hx hb dX12_could_75 rfl (lv_at hl 1 rfl) ?_
                refine lv_iload_n hx hb dX12_could_76 rfl (lv_at hl 0 rfl) ?_
                refine ci_ C hW (runV (x := (g.2.2.1 13)) (As := [.int (-6)]) (rest := []) (T := ((J, L, I, P, E, N), sgM g)) C hW (c_X12_refuse l g J L I P E N H.size (-6) (show -6 ≤ (-6 : Int32).toInt ∧ (-6 : Int32).toInt ≤ -1 from by (try simp only [kn6]); omega)) mi_X12_refuse tw_1239 (recv_ (T := ((J, L, I, P, E, N), sgM g)) C hW (mm_ rfl) rfl rfl) ⟨rfl, rfl, Nat.le_of_ble_eq_true rfl, Nat.le_of_ble_eq_true rfl⟩ rfl hl.1 rfl (Nat.le_of_ble_eq_true rfl) dX12_could_77 ⟨Nat.le_of_ble_eq_true rfl, Nat.le_of_ble_eq_true rfl⟩) (fun r13 u13 H locs hp13 hW => ?_)
                have hc13 : ((r13 = (-6))) := hp13
                clear hp13
                have hr13 : r13.toInt = (-6) := by rw [hc13]; exact kn6
                have hW : WB g A s.heap H locs ((hv J [100] [] u13), L, I, P, E, N) (sgM g) := hW
                have hWr : WB g A s.heap H locs (hv J [100, 125, 126] [(13, 41)] (hv J [100] [] u13), L, I, P, E, N) (sgM g) := by
                  rw [← ag_hvE (J := J) (R := [100, 125, 126]) (F := [(13, 41)]) (ag_hv rfl rfl ag_rf)]
                  exact hW
                have hwmr : WM (hv J [100] [] u13) := by first | exact hwm | exact wm_could hwm (tcl _) (by omega) (by omega) (by omega)
                have hwmr : WM (hv J [100, 125, 126] [(13, 41)] (hv J [100] [] u13)) := by
                  rw [← ag_hvE (J := J) (R := [100, 125, 126]) (F := [(13, 41)]) (ag_hv rfl rfl ag_rf)]; exact hwmr
                subst hQ9
                exact end_i C hr hlocks (hv J [100] [] u13) hWr ⟨hwmr, by first | exact Or.inl ⟨by omega, by omega, show J 13 41 = J 13 41 from by first | rfl | assumption, show J 125 = J 125 from by first | rfl | assumption, show J 126 = J 126 from by first | rfl | assumption⟩ | exact Or.inr (Or.inl ⟨by omega, by omega, show J 13 41 = J 13 41 from by first | rfl | exact ⟨m3.toNatClampNeg, by have := tcl m3; omega, by omega⟩, show J 125 = J 125 from by first | rfl | exact ⟨m3.toNatClampNeg, by have := tcl m3; omega, by omega⟩, show J 126 = J 126 from by first | rfl | exact ⟨m3.toNatClampNeg, by have := tcl m3; omega, by omega⟩, show (∃ k : Nat, (k : Int) < (J 13 41).toInt ∧ (J 125 k).toInt = a0.toInt) from by first | rfl | exact ⟨m3.toNatClampNeg, by have := tcl m3; omega, by omega⟩⟩) | exact Or.inr (Or.inr (Or.inl ⟨by omega, by omega, show J 13 41 = J 13 41 from by first | rfl | (intro k hk; exact hno k (by omega)), show J 125 = J 125 from by first | rfl | (intro k hk; exact hno k (by omega)), show J 126 = J 126 from by first | rfl | (intro k hk; exact hno k (by omega)), show (∀ k : Nat, (k : Int) < (J 13 41).toInt → ¬ (J 125 k).toInt = a0.toInt) from by first | rfl | (intro k hk; exact hno k (by omega))⟩)) | exact Or.inr (Or.inr (Or.inr (Or.inl ⟨by omega, by omega, show J 13 41 = J 13 41 from by first | rfl | (intro k hk; exact hno k (by omega)), show J 125 = J 125 from by first | rfl | (intro k hk; exact hno k (by omega)), show J 126 = J 126 from by first | rfl | (intro k hk; exact hno k (by omega)), show (∀ k : Nat, (k : Int) < (J 13 41).toInt → ¬ (J 125 k).toInt = a0.toInt) from by first | rfl | (intro k hk; exact hno k (by omega))⟩))) | exact Or.inr (Or.inr (Or.inr (Or.inr (⟨by omega, by omega, show (J 13 41).toInt = (J 13 41).toInt + 1 from by first | rfl | (intro k hk; exact hno k (by omega)) | omega, show J 125 = up2 J 125 (J 13 41).toNatClampNeg a0 125 from by first | rfl | (intro k hk; exact hno k (by omega)) | omega, show J 126 = up2 J 126 (J 13 41).toNatClampNeg a1 126 from by first | rfl | (intro k hk; exact hno k (by omega)) | omega, show (∀ k : Nat, (k : Int) < (J 13 41).toInt → ¬ (J 125 k).toInt = a0.toInt) from by first | rfl | (intro k hk; exact hno k (by omega)) | omega⟩)))) | (rcases hc1 with qhc1 | qhc1 <;> rcases hc4 with qhc4 | qhc4 | qhc4 <;> first | exact Or.inl ⟨by omega, by omega, show J 13 41 = J 13 41 from by first | rfl | assumption, show J 125 = J 125 from by first | rfl | assumption, show J 126 = J 126 from by first | rfl | assumption⟩ | exact Or.inr (Or.inl ⟨by omega, by omega, show J 13 41 = J 13 41 from by first | rfl | exact ⟨m3.toNatClampNeg, by have := tcl m3; omega, by omega⟩, show J 125 = J 125 from by first | rfl | exact ⟨m3.toNatClampNeg, by have := tcl m3; omega, by omega⟩, show J 126 = J 126 from by first | rfl | exact ⟨m3.toNatClampNeg, by have := tcl m3; omega, by omega⟩, show (∃ k : Nat, (k : Int) < (J 13 41).toInt ∧ (J 125 k).toInt = a0.toInt) from by first | rfl | exact ⟨m3.toNatClampNeg, by have := tcl m3; omega, by omega⟩⟩) | exact Or.inr (Or.inr (Or.inl ⟨by omega, by omega, show J 13 41 = J 13 41 from by first | rfl | (intro k hk; exact hno k (by omega)), show J 125 = J 125 from by first | rfl | (intro k hk; exact hno k (by omega)), show J 126 = J 126 from by first | rfl | (intro k hk; exact hno k (by omega)), show (∀ k : Nat, (k : Int) < (J 13 41).toInt → ¬ (J 125 k).toInt = a0.toInt) from by first | rfl | (intro k hk; exact hno k (by omega))⟩)) | exact Or.inr (Or.inr (Or.inr (Or.inl ⟨by omega, by omega, show J 13 41 = J 13 41 from by first | rfl | (intro k hk; exact hno k (by omega)), show J 125 = J 125 from by first | rfl | (intro k hk; exact hno k (by omega)), show J 126 = J 126 from by first | rfl | (intro k hk; exact hno k (by omega)), show (∀ k : Nat, (k : Int) < (J 13 41).toInt → ¬ (J 125 k).toInt = a0.toInt) from by first | rfl | (intro k hk; exact hno k (by omega))⟩))) | exact Or.inr (Or.inr (Or.inr (Or.inr (⟨by omega, by omega, show (J 13 41).toInt = (J 13 41).toInt + 1 from by first | rfl | (intro k hk; exact hno k (by omega)) | omega, show J 125 = up2 J 125 (J 13 41).toNatClampNeg a0 125 from by first | rfl | (intro k hk; exact hno k (by omega)) | omega, show J 126 = up2 J 126 (J 13 41).toNatClampNeg a1 126 from by first | rfl | (intro k hk; exact hno k (by omega)) | omega, show (∀ k : Nat, (k : Int) < (J 13 41).toInt → ¬ (J 125 k).toInt = a0.toInt) from by first | rfl | (intro k hk; exact hno k (by omega)) | omega⟩)))) | (exfalso; omega))⟩ dX12_could_80
        · have c3 : m3.toInt < (J 13 41).toInt := tnle rfl rfl c3
          refine lv_aload_n hx hb dX12_could_24 rfl (lv_at hl 1 rfl) ?_
          refine rg_13_25 C hW (mm_ rfl) tw_1048 dX12_could_25 ?_
          refine lv_iload_n hx hb dX12_could_28 rfl (lv_at hl 0 rfl) ?_
          have hin : vp_in m3 9 := tin rfl (by omega)
          refine ra_125 C hW (mm_ rfl) hin dX12_could_29 ?_
          refine lv_topi (fun x14 (e14 : x14 = J 125 m3.toNatClampNeg) => ?_)
          have t14 : x14.toInt = (J 125 m3.toNatClampNeg).toInt := by rw [e14]
          refine lv_iload_n hx hb dX12_could_30 rfl (lv_at hl 2 rfl) ?_
          refine lv_icmp_ne (tgt := 41) hx hb dX12_could_31 (by decide) (fun c15 => ?_) (fun c15 => ?_)
          · have c15 : ¬ x14.toInt = a0.toInt := tne rfl rfl c15
            obtain ⟨x16, e16⟩ : ∃ y : Int32, y = m3 + 1 := ⟨_, rfl⟩
            refine lv_iinc (v := x16) (lv' := [(3, .int x16), (0, .ref (g.2.2.1 13)), (1, .int a0), (2, .int a1)]) hx hb dX12_could_41 hl (k := 0) rfl (by rw [e16]; rfl) (by decide) rfl (fun ls hl => ?_)
            try have t16 : x16.toInt = m3.toInt + 1 := tadd e16 rfl kp1 (by omega)
            refine lv_goto (tgt := 16) hx hb dX12_could_44 (by decide) ?_
            refine ih x16 H locs ls ?_ ?_ ?_ hW (lv_sub hl [0, 1, 2, 3] rfl)
            · show (9 - x16.toInt).toNat < n
              omega
            · show 0 ≤ x16.toInt ∧ x16.toInt ≤ (J 13 41).toInt
              first | omega | exact hi | assumption
            · show ∀ k : Nat, (k : Int) < x16.toInt → ¬ (J 125 k).toInt = a0.toInt
              intro k hk; rcases (show (k : Int) < m3.toInt ∨ k = m3.toNatClampNeg by have := tcl m3; omega) with q | q; exact hno k q; rw [q]; omega
          · have c15 : x14.toInt = a0.toInt := teq rfl rfl c15
            refine lv_aload_n hx hb dX12_could_34 rfl (lv_at hl 1 rfl) ?_
            refine lv_bipush (v := (-3)) hx hb dX12_could_35 (by decide) ?_
            refine ci_ C hW (runV (x := (g.2.2.1 13)) (As := [.int (-3)]) (rest := []) (T := ((J, L, I, P, E, N), sgM g)) C hW (c_X12_refuse l g J L I P E N H.size (-3) (show -6 ≤ (-3 : Int32).toInt ∧ (-3 : Int32).toInt ≤ -1 from by (try simp only [kn3]); omega)) mi_X12_refuse tw_1239 (recv_ (T := ((J, L, I, P, E, N), sgM g)) C hW (mm_ rfl) rfl rfl) ⟨rfl, rfl, Nat.le_of_ble_eq_true rfl, Nat.le_of_ble_eq_true rfl⟩ rfl hl.1 rfl (Nat.le_of_ble_eq_true rfl) dX12_could_37 ⟨Nat.le_of_ble_eq_true rfl, Nat.le_of_ble_eq_true rfl⟩) (fun r17 u17 H locs hp17 hW => ?_)
            have hc17 : ((r17 = (-3))) := hp17
            clear hp17
            have hr17 : r17.toInt = (-3) := by rw [hc17]; exact kn3
            have hW : WB g A s.heap H locs ((hv J [100] [] u17), L, I, P, E, N) (sgM g) := hW
            have hWr : WB g A s.heap H locs (hv J [100, 125, 126] [(13, 41)] (hv J [100] [] u17), L, I, P, E, N) (sgM g) := by
              rw [← ag_hvE (J := J) (R := [100, 125, 126]) (F := [(13, 41)]) (ag_hv rfl rfl ag_rf)]
              exact hW
            have hwmr : WM (hv J [100] [] u17) := by first | exact hwm | exact wm_could hwm (tcl _) (by omega) (by omega) (by omega)
            have hwmr : WM (hv J [100, 125, 126] [(13, 41)] (hv J [100] [] u17)) := by
              rw [← ag_hvE (J := J) (R := [100, 125, 126]) (F := [(13, 41)]) (ag_hv rfl rfl ag_rf)]; exact hwmr
            subst hQ9
            exact end_i C hr hlocks (hv J [100] [] u17) hWr ⟨hwmr, by first | exact Or.inl ⟨by omega, by omega, show J 13 41 = J 13 41 from by first | rfl | assumption, show J 125 = J 125 from by first | rfl | assumption, show J 126 = J 126 from by first | rfl | assumption⟩ | exact Or.inr (Or.inl ⟨by omega, by omega, show J 13 41 = J 13 41 from by first | rfl | exact ⟨m3.toNatClampNeg, by have := tcl m3; omega, by omega⟩, show J 125 = J 125 from by first | rfl | exact ⟨m3.toNatClampNeg, by have := tcl m3; omega, by omega⟩, show J 126 = J 126 from by first | rfl | exact ⟨m3.toNatClampNeg, by have := tcl m3; omega, by omega⟩, show (∃ k : Nat, (k : Int) < (J 13 41).toInt ∧ (J 125 k).toInt = a0.toInt) from by first | rfl | exact ⟨m3.toNatClampNeg, by have := tcl m3; omega, by omega⟩⟩) | exact Or.inr (Or.inr (Or.inl ⟨by omega, by omega, show J 13 41 = J 13 41 from by first | rfl | (intro k hk; exact hno k (by omega)), show J 125 = J 125 from by first | rfl | (intro k hk; exact hno k (by omega)), show J 126 = J 126 from by first | rfl | (intro k hk; exact hno k (by omega)), show (∀ k : Nat, (k : Int) < (J 13 41).toInt → ¬ (J 125 k).toInt = a0.toInt) from by first | rfl | (intro k hk; exact hno k (by omega))⟩)) | exact Or.inr (Or.inr (Or.inr (Or.inl ⟨by omega, by omega, show J 13 41 = J 13 41 from by first | rfl | (intro k hk; exact hno k (by omega)), show J 125 = J 125 from by first | rfl | (intro k hk; exact hno k (by omega)), show J 126 = J 126 from by first | rfl | (intro k hk; exact hno k (by omega)), show (∀ k : Nat, (k : Int) < (J 13 41).toInt → ¬ (J 125 k).toInt = a0.toInt) from by first | rfl | (intro k hk; exact hno k (by omega))⟩))) | exact Or.inr (Or.inr (Or.inr (Or.inr (⟨by omega, by omega, show (J 13 41).toInt = (J 13 41).toInt + 1 from by first | rfl | (intro k hk; exact hno k (by omega)) | omega, show J 125 = up2 J 125 (J 13 41).toNatClampNeg a0 125 from by first | rfl | (intro k hk; exact hno k (by omega)) | omega, show J 126 = up2 J 126 (J 13 41).toNatClampNeg a1 126 from by first | rfl | (intro k hk; exact hno k (by omega)) | omega, show (∀ k : Nat, (k : Int) < (J 13 41).toInt → ¬ (J 125 k).toInt = a0.toInt) from by first | rfl | (intro k hk; exact hno k (by omega)) | omega⟩)))) | (rcases hc1 with qhc1 | qhc1 <;> first | exact Or.inl ⟨by omega, by omega, show J 13 41 = J 13 41 from by first | rfl | assumption, show J 125 = J 125 from by first | rfl | assumption, show J 126 = J 126 from by first | rfl | assumption⟩ | exact Or.inr (Or.inl ⟨by omega, by omega, show J 13 41 = J 13 41 from by first | rfl | exact ⟨m3.toNatClampNeg, by have := tcl m3; omega, by omega⟩, show J 125 = J 125 from by first | rfl | exact ⟨m3.toNatClampNeg, by have := tcl m3; omega, by omega⟩, show J 126 = J 126 from by first | rfl | exact ⟨m3.toNatClampNeg, by have := tcl m3; omega, by omega⟩, show (∃ k : Nat, (k : Int) < (J 13 41).toInt ∧ (J 125 k).toInt = a0.toInt) from by first | rfl | exact ⟨m3.toNatClampNeg, by have := tcl m3; omega, by omega⟩⟩) | exact Or.inr (Or.inr (Or.inl ⟨by omega, by omega, show J 13 41 = J 13 41 from by first | rfl | (intro k hk; exact hno k (by omega)), show J 125 = J 125 from by first | rfl | (intro k hk; exact hno k (by omega)), show J 126 = J 126 from by first | rfl | (intro k hk; exact hno k (by omega)), show (∀ k : Nat, (k : Int) < (J 13 41).toInt → ¬ (J 125 k).toInt = a0.toInt) from by first | rfl | (intro k hk; exact hno k (by omega))⟩)) | exact Or.inr (Or.inr (Or.inr (Or.inl ⟨by omega, by omega, show J 13 41 = J 13 41 from by first | rfl | (intro k hk; exact hno k (by omega)), show J 125 = J 125 from by first | rfl | (intro k hk; exact hno k (by omega)), show J 126 = J 126 from by first | rfl | (intro k hk; exact hno k (by omega)), show (∀ k : Nat, (k : Int) < (J 13 41).toInt → ¬ (J 125 k).toInt = a0.toInt) from by first | rfl | (intro k hk; exact hno k (by omega))⟩))) | exact Or.inr (Or.inr (Or.inr (Or.inr (⟨by omega, by omega, show (J 13 41).toInt = (J 13 41).toInt + 1 from by first | rfl | (intro k hk; exact hno k (by omega)) | omega, show J 125 = up2 J 125 (J 13 41).toNatClampNeg a0 125 from by first | rfl | (intro k hk; exact hno k (by omega)) | omega, show J 126 = up2 J 126 (J 13 41).toNatClampNeg a1 126 from by first | rfl | (intro k hk; exact hno k (by omega)) | omega, show (∀ k : Nat, (k : Int) < (J 13 41).toInt → ¬ (J 125 k).toInt = a0.toInt) from by first | rfl | (intro k hk; exact hno k (by omega)) | omega⟩)))) | (exfalso; omega))⟩ dX12_could_40
    -- into the loop
    refine loop16 ((9 - (0 : Int32).toInt).toNat + 1) 0 H locs ls ?_ ?_ ?_ hW (lv_sub hl [0, 1, 2, 3] rfl)
    · exact Nat.lt_succ_self _
    · show 0 ≤ (0 : Int32).toInt ∧ (0 : Int32).toInt ≤ (J 13 41).toInt
      try rw [kp0]
      first | omega | exact hi | assumption
    · show ∀ k : Nat, (k : Int) < (0 : Int32).toInt → ¬ (J 125 k).toInt = a0.toInt
      try rw [kp0]
      intro k hk; omega
  · have c2 : r1.toInt = 0 := teq rfl kp0 c2
    refine lv_aload_n hx hb dX12_could_8 rfl (lv_at hl 0 rfl) ?_
    refine lv_iconst (v := (-1)) hx hb dX12_could_9 (by decide) ?_
    refine ci_ C hW (runV (x := (g.2.2.1 13)) (As := [.int (-1)]) (rest := []) (T := ((J, L, I, P, E, N), sgM g)) C hW (c_X12_refuse l g J L I P E N H.size (-1) (show -6 ≤ (-1 : Int32).toInt ∧ (-1 : Int32).toInt ≤ -1 from by (try simp only [kn1]); omega)) mi_X12_refuse tw_1239 (recv_ (T := ((J, L, I, P, E, N), sgM g)) C hW (mm_ rfl) rfl rfl) ⟨rfl, rfl, Nat.le_of_ble_eq_true rfl, Nat.le_of_ble_eq_true rfl⟩ rfl hl.1 rfl (Nat.le_of_ble_eq_true rfl) dX12_could_10 ⟨Nat.le_of_ble_eq_true rfl, Nat.le_of_ble_eq_true rfl⟩) (fun r18 u18 H locs hp18 hW => ?_)
    have hc18 : ((r18 = (-1))) := hp18
    clear hp18
    have hr18 : r18.toInt = (-1) := by rw [hc18]; exact kn1
    have hW : WB g A s.heap H locs ((hv J [100] [] u18), L, I, P, E, N) (sgM g) := hW
    have hWr : WB g A s.heap H locs (hv J [100, 125, 126] [(13, 41)] (hv J [100] [] u18), L, I, P, E, N) (sgM g) := by
      rw [← ag_hvE (J := J) (R := [100, 125, 126]) (F := [(13, 41)]) (ag_hv rfl rfl ag_rf)]
      exact hW
    have hwmr : WM (hv J [100] [] u18) := by first | exact hwm | exact wm_could hwm (tcl _) (by omega) (by omega) (by omega)
    have hwmr : WM (hv J [100, 125, 126] [(13, 41)] (hv J [100] [] u18)) := by
      rw [← ag_hvE (J := J) (R := [100, 125, 126]) (F := [(13, 41)]) (ag_hv rfl rfl ag_rf)]; exact hwmr
    subst hQ9
    exact end_i C hr hlocks (hv J [100] [] u18) hWr ⟨hwmr, by first | exact Or.inl ⟨by omega, by omega, show J 13 41 = J 13 41 from by first | rfl | assumption, show J 125 = J 125 from by first | rfl | assumption, show J 126 = J 126 from by first | rfl | assumption⟩ | exact Or.inr (Or.inl ⟨by omega, by omega, show J 13 41 = J 13 41 from by first | rfl | exact ⟨m3.toNatClampNeg, by have := tcl m3; omega, by omega⟩, show J 125 = J 125 from by first | rfl | exact ⟨m3.toNatClampNeg, by have := tcl m3; omega, by omega⟩, show J 126 = J 126 from by first | rfl | exact ⟨m3.toNatClampNeg, by have := tcl m3; omega, by omega⟩, show (∃ k : Nat, (k : Int) < (J 13 41).toInt ∧ (J 125 k).toInt = a0.toInt) from by first | rfl | exact ⟨m3.toNatClampNeg, by have := tcl m3; omega, by omega⟩⟩) | exact Or.inr (Or.inr (Or.inl ⟨by omega, by omega, show J 13 41 = J 13 41 from by first | rfl | (intro k hk; exact hno k (by omega)), show J 125 = J 125 from by first | rfl | (intro k hk; exact hno k (by omega)), show J 126 = J 126 from by first | rfl | (intro k hk; exact hno k (by omega)), show (∀ k : Nat, (k : Int) < (J 13 41).toInt → ¬ (J 125 k).toInt = a0.toInt) from by first | rfl | (intro k hk; exact hno k (by omega))⟩)) | exact Or.inr (Or.inr (Or.inr (Or.inl ⟨by omega, by omega, show J 13 41 = J 13 41 from by first | rfl | (intro k hk; exact hno k (by omega)), show J 125 = J 125 from by first | rfl | (intro k hk; exact hno k (by omega)), show J 126 = J 126 from by first | rfl | (intro k hk; exact hno k (by omega)), show (∀ k : Nat, (k : Int) < (J 13 41).toInt → ¬ (J 125 k).toInt = a0.toInt) from by first | rfl | (intro k hk; exact hno k (by omega))⟩))) | exact Or.inr (Or.inr (Or.inr (Or.inr (⟨by omega, by omega, show (J 13 41).toInt = (J 13 41).toInt + 1 from by first | rfl | (intro k hk; exact hno k (by omega)) | omega, show J 125 = up2 J 125 (J 13 41).toNatClampNeg a0 125 from by first | rfl | (intro k hk; exact hno k (by omega)) | omega, show J 126 = up2 J 126 (J 13 41).toNatClampNeg a1 126 from by first | rfl | (intro k hk; exact hno k (by omega)) | omega, show (∀ k : Nat, (k : Int) < (J 13 41).toInt → ¬ (J 125 k).toInt = a0.toInt) from by first | rfl | (intro k hk; exact hno k (by omega)) | omega⟩)))) | (rcases hc1 with qhc1 | qhc1 <;> first | exact Or.inl ⟨by omega, by omega, show J 13 41 = J 13 41 from by first | rfl | assumption, show J 125 = J 125 from by first | rfl | assumption, show J 126 = J 126 from by first | rfl | assumption⟩ | exact Or.inr (Or.inl ⟨by omega, by omega, show J 13 41 = J 13 41 from by first | rfl | exact ⟨m3.toNatClampNeg, by have := tcl m3; omega, by omega⟩, show J 125 = J 125 from by first | rfl | exact ⟨m3.toNatClampNeg, by have := tcl m3; omega, by omega⟩, show J 126 = J 126 from by first | rfl | exact ⟨m3.toNatClampNeg, by have := tcl m3; omega, by omega⟩, show (∃ k : Nat, (k : Int) < (J 13 41).toInt ∧ (J 125 k).toInt = a0.toInt) from by first | rfl | exact ⟨m3.toNatClampNeg, by have := tcl m3; omega, by omega⟩⟩) | exact Or.inr (Or.inr (Or.inl ⟨by omega, by omega, show J 13 41 = J 13 41 from by first | rfl | (intro k hk; exact hno k (by omega)), show J 125 = J 125 from by first | rfl | (intro k hk; exact hno k (by omega)), show J 126 = J 126 from by first | rfl | (intro k hk; exact hno k (by omega)), show (∀ k : Nat, (k : Int) < (J 13 41).toInt → ¬ (J 125 k).toInt = a0.toInt) from by first | rfl | (intro k hk; exact hno k (by omega))⟩)) | exact Or.inr (Or.inr (Or.inr (Or.inl ⟨by omega, by omega, show J 13 41 = J 13 41 from by first | rfl | (intro k hk; exact hno k (by omega)), show J 125 = J 125 from by first | rfl | (intro k hk; exact hno k (by omega)), show J 126 = J 126 from by first | rfl | (intro k hk; exact hno k (by omega)), show (∀ k : Nat, (k : Int) < (J 13 41).toInt → ¬ (J 125 k).toInt = a0.toInt) from by first | rfl | (intro k hk; exact hno k (by omega))⟩))) | exact Or.inr (Or.inr (Or.inr (Or.inr (⟨by omega, by omega, show (J 13 41).toInt = (J 13 41).toInt + 1 from by first | rfl | (intro k hk; exact hno k (by omega)) | omega, show J 125 = up2 J 125 (J 13 41).toNatClampNeg a0 125 from by first | rfl | (intro k hk; exact hno k (by omega)) | omega, show J 126 = up2 J 126 (J 13 41).toNatClampNeg a1 126 from by first | rfl | (intro k hk; exact hno k (by omega)) | omega, show (∀ k : Nat, (k : Int) < (J 13 41).toInt → ¬ (J 125 k).toInt = a0.toInt) from by first | rfl | (intro k hk; exact hno k (by omega)) | omega⟩)))) | (exfalso; omega))⟩ dX12_could_13
