set_option maxHeartbeats 4000000 in
set_option maxRecDepth 100000 in
theorem c_X3_fewestHours_e (l : Launch) (g : gG) (J : Nat → Nat → Int32) (L : Nat → Nat → Int64) (I : Nat → Nat → Nat → Int32) (P : Nat → Nat → Nat → Option Nat) (E : Nat → Option Nat) (N : Nat → Nat) (dy : List (Nat × Nat)) (sz : Nat) (a0 : Int32) (a1 : Int32) (hwf : WXF g J P E N dy) (hhr : 0 ≤ a0.toInt ∧ a0.toInt ≤ 16777215) (hc12 : CB (tN a0) 24 ≤ 12) : Met l yX3_fewestHours (WS yX3_fewestHours cX3_fewestHours 8 (some .int)) (RM (5) 0 0) (PC g [.ref (g.2.2.1 4), .int a0, .int a1] ((J, L, I, P, E, N), sgX g ++ dy) sz) (va_Qi (fun (r : Int32) (u : Unit) => ((¬ a1.toInt ≤ ((CNT (fun h => CVR (L 47) a0 h) 64 : Nat) : Int) ∧ r.toInt = -9) ∨ (a1.toInt ≤ ((CNT (fun h => CVR (L 47) a0 h) 64 : Nat) : Int) ∧ r.toInt = (BSF (fun t => a1.toInt ≤ ((CNT (fun h => CVR (L 47) (SQ a0 t) h) 64 : Nat) : Int)) (fun t => CB (tN (SQ a0 t)) 32) (fun t => (SQ a0 t).toInt) (2 ^ CB (tN a0) 24)).1))) (fun u t => at_ g (FR g ((J, L, I, P, E, N), sgX g ++ dy) sz) ((J, L, I, P, E, N), sgX g ++ dy) t) (FR g ((J, L, I, P, E, N), sgX g ++ dy) sz)) 0 0 (FR g ((J, L, I, P, E, N), sgX g ++ dy) sz) := by
  refine ent (by decide +kernel) (Nat.le_of_ble_eq_true rfl) ?_
  intro p e s m below meth c ls hsz C hW hr hlocks hname hl
  generalize FR g ((J, L, I, P, E, N), sgX g ++ dy) sz = A at C hW ⊢
  generalize hQ9 : (va_Qi (fun (r : Int32) (u : Unit) => ((¬ a1.toInt ≤ ((CNT (fun h => CVR (L 47) a0 h) 64 : Nat) : Int) ∧ r.toInt = -9) ∨ (a1.toInt ≤ ((CNT (fun h => CVR (L 47) a0 h) 64 : Nat) : Int) ∧ r.toInt = (BSF (fun t => a1.toInt ≤ ((CNT (fun h => CVR (L 47) (SQ a0 t) h) 64 : Nat) : Int)) (fun t => CB (tN (SQ a0 t)) 32) (fun t => (SQ a0 t).toInt) (2 ^ CB (tN a0) 24)).1))) (fun u t => at_ g A ((J, L, I, P, E, N), sgX g ++ dy) t) A) = Q9
  have hx := C.1.1
  have hb := C.1.2.1
  have hts := C.1.2.2.2.2
  have hl : lv_has ls 8 [(0, .ref (g.2.2.1 4)), (1, .int a0), (2, .int a1)] := hl
  obtain ⟨H, hH⟩ : ∃ H : Heap, H = s.heap := ⟨_, rfl⟩
  obtain ⟨locs, hlocs⟩ : ∃ q : List Loc, q = [] := ⟨_, rfl⟩
  have hW : WB g A s.heap H locs (J, L, I, P, E, N) (sgX g ++ dy) := by rw [hH, hlocs]; exact hW
  have hh24 : tN a0 < 2 ^ 24 := by (have h8 := tN_i hhr.1; omega)
  have hpw12 := pow12 hc12
  refine start_ hH hlocs ?_
  refine lv_aload_n hx hb dX3_fewestHours_0 rfl (lv_at hl 0 rfl) ?_
  refine lv_iload_n hx hb dX3_fewestHours_1 rfl (lv_at hl 1 rfl) ?_
  refine ci_ C hW (runV (x := (g.2.2.1 4)) (As := [.int a0]) (rest := []) (T := ((J, L, I, P, E, N), sgX g ++ dy)) C hW (c_X3_covered_e l g J L I P E N dy H.size a0 hwf (show 0 ≤ a0.toInt ∧ a0.toInt ≤ 16777215 from hhr)) mi_X3_covered tw_932 (recv_ (T := ((J, L, I, P, E, N), sgX g ++ dy)) C hW (mx_ rfl) rfl rfl) ⟨rfl, rfl, Nat.le_of_ble_eq_true rfl, Nat.le_of_ble_eq_true rfl⟩ rfl hl.1 rfl (Nat.le_of_ble_eq_true rfl) dX3_fewestHours_2 ⟨Nat.le_of_ble_eq_true rfl, Nat.le_of_ble_eq_true rfl⟩) (fun r1 u1 H locs hp1 hW => ?_)
  have hf1_0 : (r1.toInt = ((CNT (fun h => CVR (L 47) a0 h) 64 : Nat) : Int)) := hp1
  clear hp1
  have hW : WB g A s.heap H locs (J, L, I, P, E, N) (sgX g ++ dy) := hW
  have hC0 := hf1_0
  refine lv_iload_n hx hb dX3_fewestHours_5 rfl (lv_at hl 2 rfl) ?_
  refine lv_icmp_ge (tgt := 12) hx hb dX3_fewestHours_6 (by decide) (fun c2 => ?_) (fun c2 => ?_)
  · have c2 : a1.toInt ≤ r1.toInt := tle rfl rfl c2
    refine lv_bipush (v := 25) hx hb dX3_fewestHours_12 (by decide) ?_
    refine lv_istore_n (lv' := [(3, .int 25), (0, .ref (g.2.2.1 4)), (1, .int a0), (2, .int a1)]) hx hb dX3_fewestHours_14 rfl hl (by decide) rfl (fun ls hl => ?_)
    refine lv_bipush (v := (-9)) hx hb dX3_fewestHours_15 (by decide) ?_
    refine lv_istore (lv' := [(4, .int (-9)), (3, .int 25), (0, .ref (g.2.2.1 4)), (1, .int a0), (2, .int a1)]) hx hb dX3_fewestHours_17 hl (by decide) rfl (fun ls hl => ?_)
    refine lv_iconst (v := 0) hx hb dX3_fewestHours_19 (by decide) ?_
    refine lv_istore (lv' := [(5, .int 0), (4, .int (-9)), (3, .int 25), (0, .ref (g.2.2.1 4)), (1, .int a0), (2, .int a1)]) hx hb dX3_fewestHours_20 hl (by decide) rfl (fun ls hl => ?_)
    refine lv_iconst (v := 0) hx hb dX3_fewestHours_22 (by decide) ?_
    refine lv_istore (lv' := [(6, .int 0), (5, .int 0), (4, .int (-9)), (3, .int 25), (0, .ref (g.2.2.1 4)), (1, .int a0), (2, .int a1)]) hx hb dX3_fewestHours_23 hl (by decide) rfl (fun ls hl => ?_)
    have loop25 : ∀ (n : Nat) (m3 : Int32) (m4 : Int32) (m5 : Int32) (m6 : Int32) (H : Heap) (locs : List Loc) (ls : Array Slot), (4096 - m6.toInt).toNat < n → 0 ≤ m6.toInt ∧ m6.toInt ≤ 4096 → m5 = SQ a0 m6.toInt.toNat → m4.toInt = (BSF (fun t => a1.toInt ≤ ((CNT (fun h => CVR (L 47) (SQ a0 t) h) 64 : Nat) : Int)) (fun t => CB (tN (SQ a0 t)) 32) (fun t => (SQ a0 t).toInt) m6.toInt.toNat).1 ∧ m3.toInt = (((BSF (fun t => a1.toInt ≤ ((CNT (fun h => CVR (L 47) (SQ a0 t) h) 64 : Nat) : Int)) (fun t => CB (tN (SQ a0 t)) 32) (fun t => (SQ a0 t).toInt) m6.toInt.toNat).2 : Nat) : Int) → m6.toInt.toNat < (2 ^ CB (tN a0) 24) → WB g A s.heap H locs (J, L, I, P, E, N) (sgX g ++ dy) → lv_has ls 8 [(6, .int m6), (5, .int m5), (4, .int m4), (3, .int m3), (0, .ref (g.2.2.1 4)), (1, .int a0), (2, .int a1)] → W p l e (RM (5) 0 0) s m ([.ref (g.2.2.1 4), .int a0, .int a1] : List Value).toArray below meth c H locs 0 0 (MQ below Q9 ([.ref (g.2.2.1 4), .int a0, .int a1] : List Value).toArray s 0 0 A) (F0 m 25 ls []) := by
      intro n
      induction n with
      | zero => intro m3 m4 m5 m6 H locs ls hmeas; exact absurd hmeas (Nat.not_lt_zero _)
      | succ n ih =>
        intro m3 m4 m5 m6 H locs ls hmeas hi hsq hbs hlt hW hl
        refine lv_iload hx hb dX3_fewestHours_25 (lv_at hl 0 rfl) ?_
        refine lv_sipush (v := 4096) hx hb dX3_fewestHours_27 (by decide) ?_
        refine lv_icmp_ge (tgt := 86) hx hb dX3_fewestHours_30 (by decide) (fun c3 => ?_) (fun c3 => ?_)
        · have c3 : 4096 ≤ m6.toInt := tle kp4096 rfl c3
          refine lv_iload hx hb dX3_fewestHours_86 (lv_at hl 2 rfl) ?_
          subst hQ9
          exact end_i C hr hlocks () hW (show (¬ a1.toInt ≤ ((CNT (fun h => CVR (L 47) a0 h) 64 : Nat) : Int) ∧ m4.toInt = -9) ∨ (a1.toInt ≤ ((CNT (fun h => CVR (L 47) a0 h) 64 : Nat) : Int) ∧ m4.toInt = (BSF (fun t => a1.toInt ≤ ((CNT (fun h => CVR (L 47) (SQ a0 t) h) 64 : Nat) : Int)) (fun t => CB (tN (SQ a0 t)) 32) (fun t => (SQ a0 t).toInt) (2 ^ CB (tN a0) 24)).1) from by (exfalso; omega)) dX3_fewestHours_88
        · have c3 : m6.toInt < 4096 := tnle kp4096 rfl c3
          refine lv_iload hx hb dX3_fewestHours_33 (lv_at hl 1 rfl) ?_
          refine ci_ C hW (runS (As := [.int m5]) (rest := []) (T := ((J, L, I, P, E, N), sgX g ++ dy)) C hW (c_J6_bitCount_0f7a4_e l g J L I P E N dy H.size m5 ) mi_J6_bitCount_0f7a4 tw_864 ⟨rfl, rfl, Nat.le_of_ble_eq_true rfl, Nat.le_of_ble_eq_true rfl⟩ rfl hl.1 rfl (Nat.le_of_ble_eq_true rfl) dX3_fewestHours_35 ⟨Nat.le_of_ble_eq_true rfl, Nat.le_of_ble_eq_true rfl⟩) (fun r4 u4 H locs hp4 hW => ?_)
          have hf4_0 : (r4.toInt = ((CB (tN m5) 32 : Nat) : Int)) := hp4
          clear hp4
          have hW : WB g A s.heap H locs (J, L, I, P, E, N) (sgX g ++ dy) := hW
          have hZ := hf4_0
          rw [show (CB (tN m5) 32 : Nat) = CB (tN (SQ a0 m6.toInt.toNat)) 32 by rw [hsq]] at hZ
          refine lv_istore (lv' := [(7, .int r4), (6, .int m6), (5, .int m5), (4, .int m4), (3, .int m3), (0, .ref (g.2.2.1 4)), (1, .int a0), (2, .int a1)]) hx hb dX3_fewestHours_38 hl (by decide) rfl (fun ls hl => ?_)
          refine lv_iload hx hb dX3_fewestHours_40 (lv_at hl 0 rfl) ?_
          refine lv_iload_n hx hb dX3_fewestHours_42 rfl (lv_at hl 4 rfl) ?_
          refine lv_icmp_ge (tgt := 63) hx hb dX3_fewestHours_43 (by decide) (fun c5 => ?_) (fun c5 => ?_)
          · have c5 : m3.toInt ≤ r4.toInt := tle rfl rfl c5
            refine lv_iload hx hb dX3_fewestHours_63 (lv_at hl 2 rfl) ?_
            refine lv_iload_n hx hb dX3_fewestHours_65 rfl (lv_at hl 6 rfl) ?_
            refine lv_icmp_ne (tgt := 72) hx hb dX3_fewestHours_66 (by decide) (fun c6 => ?_) (fun c6 => ?_)
            · have c6 : ¬ m5.toInt = a0.toInt := tne rfl rfl c6
              refine lv_iload hx hb dX3_fewestHours_72 (lv_at hl 2 rfl) ?_
              refine lv_iload_n hx hb dX3_fewestHours_74 rfl (lv_at hl 6 rfl) ?_
              refine lv_isub hx hb dX3_fewestHours_75 ?_
              refine lv_topi (fun x7 (e7 : x7 = m5 - a0) => ?_)
              try have t7 : x7.toInt = m5.toInt - a0.toInt := tsub e7 rfl rfl (by omega)
              refine lv_iload_n hx hb dX3_fewestHours_76 rfl (lv_at hl 6 rfl) ?_
              refine lv_iand hx hb dX3_fewestHours_77 ?_
              refine lv_topi (fun x8 (e8 : x8 = x7 &&& a0) => ?_)
              refine lv_istore (lv' := [(5, .int x8), (7, .int r4), (6, .int m6), (4, .int m4), (3, .int m3), (0, .ref (g.2.2.1 4)), (1, .int a0), (2, .int a1)]) hx hb dX3_fewestHours_78 hl (by decide) rfl (fun ls hl => ?_)
              obtain ⟨x9, e9⟩ : ∃ y : Int32, y = m6 + 1 := ⟨_, rfl⟩
              refine lv_iinc (v := x9) (lv' := [(6, .int x9), (5, .int x8), (7, .int r4), (4, .int m4), (3, .int m3), (0, .ref (g.2.2.1 4)), (1, .int a0), (2, .int a1)]) hx hb dX3_fewestHours_80 hl (k := 2) rfl (by rw [e9]; rfl) (by decide) rfl (fun ls hl => ?_)
              try have t9 : x9.toInt = m6.toInt + 1 := tadd e9 rfl kp1 (by omega)
              refine lv_goto (tgt := 25) hx hb dX3_fewestHours_83 (by decide) ?_
              refine ih m3 m4 x8 x9 H locs ls ?_ ?_ ?_ ?_ ?_ hW (lv_sub hl [0, 1, 3, 4, 5, 6, 7] rfl)
              · show (4096 - x9.toInt).toNat < n
                omega
              · show 0 ≤ x9.toInt ∧ x9.toInt ≤ 4096
                first | omega | exact hi | assumption
              · show x8 = SQ a0 x9.toInt.toNat
                (have e9 : (x9).toInt.toNat = m6.toInt.toNat + 1 := (by omega); rw [e9]; exact sq_1 e7 e8 hsq)
              · show m4.toInt = (BSF (fun t => a1.toInt ≤ ((CNT (fun h => CVR (L 47) (SQ a0 t) h) 64 : Nat) : Int)) (fun t => CB (tN (SQ a0 t)) 32) (fun t => (SQ a0 t).toInt) x9.toInt.toNat).1 ∧ m3.toInt = (((BSF (fun t => a1.toInt ≤ ((CNT (fun h => CVR (L 47) (SQ a0 t) h) 64 : Nat) : Int)) (fun t => CB (tN (SQ a0 t)) 32) (fun t => (SQ a0 t).toInt) x9.toInt.toNat).2 : Nat) : Int)
                (have hX := (bs_n (z := r4) hbs hZ (by first | exact Or.inr (by omega) | exact Or.inl (fun q => by have q : a1.toInt ≤ _ := q; omega))); have e9 : (x9).toInt.toNat = m6.toInt.toNat + 1 := (by omega); rw [e9]; exact hX)
              · show x9.toInt.toNat < (2 ^ CB (tN a0) 24)
                (have hM := sq_more hh24 (fun q => by have q9 := congrArg Int32.toInt (hsq.trans q); omega) hlt; omega)
            · have c6 : m5.toInt = a0.toInt := teq rfl rfl c6
              refine lv_goto (tgt := 86) hx hb dX3_fewestHours_69 (by decide) ?_
              refine lv_iload hx hb dX3_fewestHours_86 (lv_at hl 3 rfl) ?_
              subst hQ9
              exact end_i C hr hlocks () hW (show (¬ a1.toInt ≤ ((CNT (fun h => CVR (L 47) a0 h) 64 : Nat) : Int) ∧ m4.toInt = -9) ∨ (a1.toInt ≤ ((CNT (fun h => CVR (L 47) a0 h) 64 : Nat) : Int) ∧ m4.toInt = (BSF (fun t => a1.toInt ≤ ((CNT (fun h => CVR (L 47) (SQ a0 t) h) 64 : Nat) : Int)) (fun t => CB (tN (SQ a0 t)) 32) (fun t => (SQ a0 t).toInt) (2 ^ CB (tN a0) 24)).1) from by (have hX := (bs_n (z := r4) hbs hZ (by first | exact Or.inr (by omega) | exact Or.inl (fun q => by have q : a1.toInt ≤ _ := q; omega))); have hE := sq_end hh24 (hsq.symm.trans (ext_i (by omega))) hlt; rw [hE] at hX; exact Or.inr ⟨by omega, hX.1⟩)) dX3_fewestHours_88
          · have c5 : r4.toInt < m3.toInt := tnle rfl rfl c5
            refine lv_aload_n hx hb dX3_fewestHours_46 rfl (lv_at hl 5 rfl) ?_
            refine lv_iload hx hb dX3_fewestHours_47 (lv_at hl 2 rfl) ?_
            refine ci_ C hW (runV (x := (g.2.2.1 4)) (As := [.int m5]) (rest := []) (T := ((J, L, I, P, E, N), sgX g ++ dy)) C hW (c_X3_covered_e l g J L I P E N dy H.size m5 hwf (show 0 ≤ m5.toInt ∧ m5.toInt ≤ 16777215 from (by have h8 := i_of_tN (sq_le hh24 m6.toInt.toNat); have h7 := sq_le hh24 m6.toInt.toNat; rw [← hsq] at h8 h7; omega))) mi_X3_covered tw_932 (recv_ (T := ((J, L, I, P, E, N), sgX g ++ dy)) C hW (mx_ rfl) rfl rfl) ⟨rfl, rfl, Nat.le_of_ble_eq_true rfl, Nat.le_of_ble_eq_true rfl⟩ rfl hl.1 rfl (Nat.le_of_ble_eq_true rfl) dX3_fewestHours_49 ⟨Nat.le_of_ble_eq_true rfl, Nat.le_of_ble_eq_true rfl⟩) (fun r10 u10 H locs hp10 hW => ?_)
            have hf10_0 : (r10.toInt = ((CNT (fun h => CVR (L 47) m5 h) 64 : Nat) : Int)) := hp10
            clear hp10
            have hW : WB g A s.heap H locs (J, L, I, P, E, N) (sgX g ++ dy) := hW
            have hC1 := hf10_0
            rw [hsq] at hC1
            refine lv_iload_n hx hb dX3_fewestHours_52 rfl (lv_at hl 7 rfl) ?_
            refine lv_icmp_lt (tgt := 63) hx hb dX3_fewestHours_53 (by decide) (fun c11 => ?_) (fun c11 => ?_)
            · have c11 : r10.toInt < a1.toInt := tlt rfl rfl c11
              refine lv_iload hx hb dX3_fewestHours_63 (lv_at hl 2 rfl) ?_
              refine lv_iload_n hx hb dX3_fewestHours_65 rfl (lv_at hl 6 rfl) ?_
              refine lv_icmp_ne (tgt := 72) hx hb dX3_fewestHours_66 (by decide) (fun c12 => ?_) (fun c12 => ?_)
              · have c12 : ¬ m5.toInt = a0.toInt := tne rfl rfl c12
                refine lv_iload hx hb dX3_fewestHours_72 (lv_at hl 2 rfl) ?_
                refine lv_iload_n hx hb dX3_fewestHours_74 rfl (lv_at hl 6 rfl) ?_
                refine lv_isub hx hb dX3_fewestHours_75 ?_
                refine lv_topi (fun x13 (e13 : x13 = m5 - a0) => ?_)
                try have t13 : x13.toInt = m5.toInt - a0.toInt := tsub e13 rfl rfl (by omega)
                refine lv_iload_n hx hb dX3_fewestHours_76 rfl (lv_at hl 6 rfl) ?_
                refine lv_iand hx hb dX3_fewestHours_77 ?_
                refine lv_topi (fun x14 (e14 : x14 = x13 &&& a0) => ?_)
                refine lv_istore (lv' := [(5, .int x14), (7, .int r4), (6, .int m6), (4, .int m4), (3, .int m3), (0, .ref (g.2.2.1 4)), (1, .int a0), (2, .int a1)]) hx hb dX3_fewestHours_78 hl (by decide) rfl (fun ls hl => ?_)
                obtain ⟨x15, e15⟩ : ∃ y : Int32, y = m6 + 1 := ⟨_, rfl⟩
                refine lv_iinc (v := x15) (lv' := [(6, .int x15), (5, .int x14), (7, .int r4), (4, .int m4), (3, .int m3), (0, .ref (g.2.2.1 4)), (1, .int a0), (2, .int a1)]) hx hb dX3_fewestHours_80 hl (k := 2) rfl (by rw [e15]; rfl) (by decide) rfl (fun ls hl => ?_)
                try have t15 : x15.toInt = m6.toInt + 1 := tadd e15 rfl kp1 (by omega)
                refine lv_goto (tgt := 25) hx hb dX3_fewestHours_83 (by decide) ?_
                refine ih m3 m4 x14 x15 H locs ls ?_ ?_ ?_ ?_ ?_ hW (lv_sub hl [0, 1, 3, 4, 5, 6, 7] rfl)
                · show (4096 - x15.toInt).toNat < n
                  omega
                · show 0 ≤ x15.toInt ∧ x15.toInt ≤ 4096
                  first | omega | exact hi | assumption
                · show x14 = SQ a0 x15.toInt.toNat
                  (have e9 : (x15).toInt.toNat = m6.toInt.toNat + 1 := (by omega); rw [e9]; exact sq_1 e13 e14 hsq)
                · show m4.toInt = (BSF (fun t => a1.toInt ≤ ((CNT (fun h => CVR (L 47) (SQ a0 t) h) 64 : Nat) : Int)) (fun t => CB (tN (SQ a0 t)) 32) (fun t => (SQ a0 t).toInt) x15.toInt.toNat).1 ∧ m3.toInt = (((BSF (fun t => a1.toInt ≤ ((CNT (fun h => CVR (L 47) (SQ a0 t) h) 64 : Nat) : Int)) (fun t => CB (tN (SQ a0 t)) 32) (fun t => (SQ a0 t).toInt) x15.toInt.toNat).2 : Nat) : Int)
                  (have hX := (bs_n (z := r4) hbs hZ (by first | exact Or.inr (by omega) | exact Or.inl (fun q => by have q : a1.toInt ≤ _ := q; omega))); have e9 : (x15).toInt.toNat = m6.toInt.toNat + 1 := (by omega); rw [e9]; exact hX)
                · show x15.toInt.toNat < (2 ^ CB (tN a0) 24)
                  (have hM := sq_more hh24 (fun q => by have q9 := congrArg Int32.toInt (hsq.trans q); omega) hlt; omega)
              · have c12 : m5.toInt = a0.toInt := teq rfl rfl c12
                refine lv_goto (tgt := 86) hx hb dX3_fewestHours_69 (by decide) ?_
                refine lv_iload hx hb dX3_fewestHours_86 (lv_at hl 3 rfl) ?_
                subst hQ9
                exact end_i C hr hlocks () hW (show (¬ a1.toInt ≤ ((CNT (fun h => CVR (L 47) a0 h) 64 : Nat) : Int) ∧ m4.toInt = -9) ∨ (a1.toInt ≤ ((CNT (fun h => CVR (L 47) a0 h) 64 : Nat) : Int) ∧ m4.toInt = (BSF (fun t => a1.toInt ≤ ((CNT (fun h => CVR (L 47) (SQ a0 t) h) 64 : Nat) : Int)) (fun t => CB (tN (SQ a0 t)) 32) (fun t => (SQ a0 t).toInt) (2 ^ CB (tN a0) 24)).1) from by (have hX := (bs_n (z := r4) hbs hZ (by first | exact Or.inr (by omega) | exact Or.inl (fun q => by have q : a1.toInt ≤ _ := q; omega))); have hE := sq_end hh24 (hsq.symm.trans (ext_i (by omega))) hlt; rw [hE] at hX; exact Or.inr ⟨by omega, hX.1⟩)) dX3_fewestHours_88
            · have c11 : a1.toInt ≤ r10.toInt := tnlt rfl rfl c11
              refine lv_iload hx hb dX3_fewestHours_56 (lv_at hl 0 rfl) ?_
              refine lv_istore_n (lv' := [(3, .int r4), (7, .int r4), (6, .int m6), (5, .int m5), (4, .int m4), (0, .ref (g.2.2.1 4)), (1, .int a0), (2, .int a1)]) hx hb dX3_fewestHours_58 rfl hl (by decide) rfl (fun ls hl => ?_)
              refine lv_iload hx hb dX3_fewestHours_59 (lv_at hl 3 rfl) ?_
              refine lv_istore (lv' := [(4, .int m5), (3, .int r4), (7, .int r4), (6, .int m6), (5, .int m5), (0, .ref (g.2.2.1 4)), (1, .int a0), (2, .int a1)]) hx hb dX3_fewestHours_61 hl (by decide) rfl (fun ls hl => ?_)
              refine lv_iload hx hb dX3_fewestHours_63 (lv_at hl 4 rfl) ?_
              refine lv_iload_n hx hb dX3_fewestHours_65 rfl (lv_at hl 6 rfl) ?_
              refine lv_icmp_ne (tgt := 72) hx hb dX3_fewestHours_66 (by decide) (fun c16 => ?_) (fun c16 => ?_)
              · have c16 : ¬ m5.toInt = a0.toInt := tne rfl rfl c16
                refine lv_iload hx hb dX3_fewestHours_72 (lv_at hl 4 rfl) ?_
                refine lv_iload_n hx hb dX3_fewestHours_74 rfl (lv_at hl 6 rfl) ?_
                refine lv_isub hx hb dX3_fewestHours_75 ?_
                refine lv_topi (fun x17 (e17 : x17 = m5 - a0) => ?_)
                try have t17 : x17.toInt = m5.toInt - a0.toInt := tsub e17 rfl rfl (by omega)
                refine lv_iload_n hx hb dX3_fewestHours_76 rfl (lv_at hl 6 rfl) ?_
                refine lv_iand hx hb dX3_fewestHours_77 ?_
                refine lv_topi (fun x18 (e18 : x18 = x17 &&& a0) => ?_)
                refine lv_istore (lv' := [(5, .int x18), (4, .int m5), (3, .int r4), (7, .int r4), (6, .int m6), (0, .ref (g.2.2.1 4)), (1, .int a0), (2, .int a1)]) hx hb dX3_fewestHours_78 hl (by decide) rfl (fun ls hl => ?_)
                obtain ⟨x19, e19⟩ : ∃ y : Int32, y = m6 + 1 := ⟨_, rfl⟩
                refine lv_iinc (v := x19) (lv' := [(6, .int x19), (5, .int x18), (4, .int m5), (3, .int r4), (7, .int r4), (0, .ref (g.2.2.1 4)), (1, .int a0), (2, .int a1)]) hx hb dX3_fewestHours_80 hl (k := 4) rfl (by rw [e19]; rfl) (by decide) rfl (fun ls hl => ?_)
                try have t19 : x19.toInt = m6.toInt + 1 := tadd e19 rfl kp1 (by omega)
                refine lv_goto (tgt := 25) hx hb dX3_fewestHours_83 (by decide) ?_
                refine ih r4 m5 x18 x19 H locs ls ?_ ?_ ?_ ?_ ?_ hW (lv_sub hl [0, 1, 2, 3, 5, 6, 7] rfl)
                · show (4096 - x19.toInt).toNat < n
                  omega
                · show 0 ≤ x19.toInt ∧ x19.toInt ≤ 4096
                  first | omega | exact hi | assumption
                · show x18 = SQ a0 x19.toInt.toNat
                  (have e9 : (x19).toInt.toNat = m6.toInt.toNat + 1 := (by omega); rw [e9]; exact sq_1 e17 e18 hsq)
                · show m5.toInt = (BSF (fun t => a1.toInt ≤ ((CNT (fun h => CVR (L 47) (SQ a0 t) h) 64 : Nat) : Int)) (fun t => CB (tN (SQ a0 t)) 32) (fun t => (SQ a0 t).toInt) x19.toInt.toNat).1 ∧ r4.toInt = (((BSF (fun t => a1.toInt ≤ ((CNT (fun h => CVR (L 47) (SQ a0 t) h) 64 : Nat) : Int)) (fun t => CB (tN (SQ a0 t)) 32) (fun t => (SQ a0 t).toInt) x19.toInt.toNat).2 : Nat) : Int)
                  (have hX := bs_y (s := m5) hbs hZ (by omega) (by show a1.toInt ≤ _; omega) (by rw [hsq]); have e9 : (x19).toInt.toNat = m6.toInt.toNat + 1 := (by omega); rw [e9]; exact hX)
                · show x19.toInt.toNat < (2 ^ CB (tN a0) 24)
                  (have hM := sq_more hh24 (fun q => by have q9 := congrArg Int32.toInt (hsq.trans q); omega) hlt; omega)
              · have c16 : m5.toInt = a0.toInt := teq rfl rfl c16
                refine lv_goto (tgt := 86) hx hb dX3_fewestHours_69 (by decide) ?_
                refine lv_iload hx hb dX3_fewestHours_86 (lv_at hl 0 rfl) ?_
                subst hQ9
                exact end_i C hr hlocks () hW (show (¬ a1.toInt ≤ ((CNT (fun h => CVR (L 47) a0 h) 64 : Nat) : Int) ∧ m5.toInt = -9) ∨ (a1.toInt ≤ ((CNT (fun h => CVR (L 47) a0 h) 64 : Nat) : Int) ∧ m5.toInt = (BSF (fun t => a1.toInt ≤ ((CNT (fun h => CVR (L 47) (SQ a0 t) h) 64 : Nat) : Int)) (fun t => CB (tN (SQ a0 t)) 32) (fun t => (SQ a0 t).toInt) (2 ^ CB (tN a0) 24)).1) from by (have hX := bs_y (s := m5) hbs hZ (by omega) (by show a1.toInt ≤ _; omega) (by rw [hsq]); have hE := sq_end hh24 (hsq.symm.trans (ext_i (by omega))) hlt; rw [hE] at hX; exact Or.inr ⟨by omega, hX.1⟩)) dX3_fewestHours_88
    -- into the loop
    refine loop25 ((4096 - (0 : Int32).toInt).toNat + 1) 25 (-9) 0 0 H locs ls ?_ ?_ ?_ ?_ ?_ hW (lv_sub hl [0, 1, 2, 3, 4, 5, 6] rfl)
    · exact Nat.lt_succ_self _
    · show 0 ≤ (0 : Int32).toInt ∧ (0 : Int32).toInt ≤ 4096
      try rw [kp25]
      try rw [kn9]
      try rw [kp0]
      try rw [kp0]
      first | omega | exact hi | assumption
    · show (0 : Int32) = SQ a0 (0 : Int32).toInt.toNat
      try rw [kp25]
      try rw [kn9]
      try rw [kp0]
      try rw [kp0]
      rfl
    · show ((-9) : Int32).toInt = (BSF (fun t => a1.toInt ≤ ((CNT (fun h => CVR (L 47) (SQ a0 t) h) 64 : Nat) : Int)) (fun t => CB (tN (SQ a0 t)) 32) (fun t => (SQ a0 t).toInt) (0 : Int32).toInt.toNat).1 ∧ (25 : Int32).toInt = (((BSF (fun t => a1.toInt ≤ ((CNT (fun h => CVR (L 47) (SQ a0 t) h) 64 : Nat) : Int)) (fun t => CB (tN (SQ a0 t)) 32) (fun t => (SQ a0 t).toInt) (0 : Int32).toInt.toNat).2 : Nat) : Int)
      try rw [kp25]
      try rw [kn9]
      try rw [kp0]
      try rw [kp0]
      exact ⟨rfl, rfl⟩
    · show (0 : Int32).toInt.toNat < (2 ^ CB (tN a0) 24)
      try rw [kp25]
      try rw [kn9]
      try rw [kp0]
      try rw [kp0]
      exact Nat.pow_pos (by decide)
  · have c2 : r1.toInt < a1.toInt := tnle rfl rfl c2
    refine lv_bipush (v := (-9)) hx hb dX3_fewestHours_9 (by decide) ?_
    subst hQ9
    exact end_i C hr hlocks () hW (show (¬ a1.toInt ≤ ((CNT (fun h => CVR (L 47) a0 h) 64 : Nat) : Int) ∧ (-9) = -9) ∨ (a1.toInt ≤ ((CNT (fun h => CVR (L 47) a0 h) 64 : Nat) : Int) ∧ (-9) = (BSF (fun t => a1.toInt ≤ ((CNT (fun h => CVR (L 47) (SQ a0 t) h) 64 : Nat) : Int)) (fun t => CB (tN (SQ a0 t)) 32) (fun t => (SQ a0 t).toInt) (2 ^ CB (tN a0) 24)).1) from by exact Or.inl ⟨by omega, rfl⟩) dX3_fewestHours_11

set_option maxHeartbeats 4000000 in
set_option maxRecDepth 100000 in
theorem c_X11_rights_e (l : Launch) (g : gG) (J : Nat → Nat → Int32) (L : Nat → Nat → Int64) (I : Nat → Nat → Nat → Int32) (P : Nat → Nat → Nat → Option Nat) (E : Nat → Option Nat) (N : Nat → Nat) (dy : List (Nat × Nat)) (sz : Nat) (a0 : Int32) (a1 : Int32) (a2 : Int32) (hwf : WXF g J P E N dy) (hnt : NTR (P 6 0) (elt E P 20) (J 101) (J 20 2).toInt) (hij : INJ E P 20 (J 20 2).toInt) (hcu : CUR (P 1 0) (I 1 1) (I 1 2) (elt E P 21) (elt E P 20) (J 105) (J 106) (J 107) (J 21 2).toInt (J 20 2).toInt) (hhm : HMR (P 2 0) (I 2 1) (I 2 2) (I 2 3) (elt E P 22) (elt E P 20) (J 108) (J 109) (J 110) (J 111) (J 22 2).toInt (J 20 2).toInt) (hspr : SPR I E P (J 27 2).toInt (J 3 1).toInt (J 116) (J 117) (J 118) (J 119) (J 120)) (hnw : (J 3 1).toInt ≤ 9999) (hn40 : (J 22 2).toInt ≤ 40) (hcdb : CDB I P E N (J 25 2).toInt) (hnw9 : 0 ≤ (J 3 1).toInt ∧ (J 3 1).toInt ≤ 9999) : Met l yX11_rights (WS yX11_rights cX11_rights 7 (some .int)) (RM (8) 0 0) (PC g [.ref (g.2.2.1 12), .int a0, .int a1, .int a2] ((J, L, I, P, E, N), sgX g ++ dy) sz) (va_Qi (fun (r : Int32) (u : (Nat → Nat → Int32) × (Nat → Nat → Int64) × (Nat → Nat → Nat → Int32)) => ((r.toInt = (-1) ∧ (¬ (0 ≤ a0.toInt ∧ a0.toInt < (J 3 1).toInt))) ∨ (r.toInt = (-4) ∧ ((0 ≤ a0.toInt ∧ a0.toInt < (J 3 1).toInt) ∧ (a1.toInt < 0 ∨ a2.toInt < 1))) ∨ (r.toInt = (-6) ∧ ((0 ≤ a0.toInt ∧ a0.toInt < (J 3 1).toInt) ∧ 0 ≤ a1.toInt ∧ 1 ≤ a2.toInt ∧ (16777215 < a1.toInt ∨ 999 < a2.toInt))) ∨ (r.toInt = (-6) ∧ ((0 ≤ a0.toInt ∧ a0.toInt < (J 3 1).toInt) ∧ 0 ≤ a1.toInt ∧ a1.toInt ≤ 16777215 ∧ 1 ≤ a2.toInt ∧ a2.toInt ≤ 999 ∧ 12 < (CB (tN a1) 24 : Int))) ∨ (r = r ∧ ((0 ≤ a0.toInt ∧ a0.toInt < (J 3 1).toInt) ∧ 0 ≤ a1.toInt ∧ a1.toInt ≤ 16777215 ∧ 1 ≤ a2.toInt ∧ a2.toInt ≤ 999 ∧ (CB (tN a1) 24 : Int) ≤ 12) ∧ (∃ (w : Int32) (x x2 : Nat → Int32), WIF I P E N (J 25 2).toInt 2 a0.toInt (fun s m9 => SCL (J 116 a0.toNatClampNeg) (hrw a0.toInt) (J 118 a0.toNatClampNeg) s m9 (J 120 a0.toNatClampNeg) (J 3 1 - a0) (J 22 2)) (TLY (fun x => SND x (J 101) (fun k => I 6 1 (elt E P 20 k)) (fun k => I 6 3 (elt E P 20 k)) (fun k => I 6 5 (elt E P 20 k)) (CUTP (J 105) (J 106) (J 107) (J 21 2).toInt a0.toInt) (J 118 a0.toNatClampNeg) (J 120 a0.toNatClampNeg) (J 20 2).toInt) (J 116 a0.toNatClampNeg) (fun x => HF (J 116 a0.toNatClampNeg) (J 110) (J 111) a0.toInt (J 4 5) (J 109) (J 108) x) (J 22 2).toInt.toNat) w ∧ SND x (J 101) (fun k => I 6 1 (elt E P 20 k)) (fun k => I 6 3 (elt E P 20 k)) (fun k => I 6 5 (elt E P 20 k)) (CUTP (J 105) (J 106) (J 107) (J 21 2).toInt a0.toInt) (J 118 a0.toNatClampNeg) (J 120 a0.toNatClampNeg) (J 20 2).toInt ∧ SND x2 (J 101) (fun k => I 6 1 (elt E P 20 k)) (fun k => I 6 3 (elt E P 20 k)) (fun k => I 6 5 (elt E P 20 k)) (CUTP (J 105) (J 106) (J 107) (J 21 2).toInt (-1 : Int32).toInt) a2 (J 4 4) (J 20 2).toInt ∧ ((¬ w.toInt ≤ ((CNT (fun h => LSP (J 116 a0.toNatClampNeg) (J 110) (J 111) a0.toInt (J 4 5) (J 109) (J 108) x x2 h ∧ HIT (J 110 h) a1) (J 22 2).toInt.toNat : Nat) : Int) ∧ r.toInt = -9) ∨ (w.toInt ≤ ((CNT (fun h => LSP (J 116 a0.toNatClampNeg) (J 110) (J 111) a0.toInt (J 4 5) (J 109) (J 108) x x2 h ∧ HIT (J 110 h) a1) (J 22 2).toInt.toNat : Nat) : Int) ∧ r.toInt = (BSF (fun t => w.toInt ≤ ((CNT (fun h => LSP (J 116 a0.toNatClampNeg) (J 110) (J 111) a0.toInt (J 4 5) (J 109) (J 108) x x2 h ∧ HIT (J 110 h) (SQ a1 t)) (J 22 2).toInt.toNat : Nat) : Int)) (fun t => CB (tN (SQ a1 t)) 32) (fun t => (SQ a1 t).toInt) (2 ^ CB (tN a1) 24)).1)))))) (fun u t => at_ g (FR g ((J, L, I, P, E, N), sgX g ++ dy) sz) (((hv J [42, 45] [(4, 6), (4, 7), (8, 1), (8, 2), (8, 3), (8, 4), (8, 5), (8, 6), (8, 7), (8, 8), (8, 9)] u.1), (hv L [47] [] u.2.1), (hv I [] [(6, 6), (6, 7)] u.2.2), P, E, N), sgX g ++ dy) t) (FR g ((J, L, I, P, E, N), sgX g ++ dy) sz)) 0 0 (FR g ((J, L, I, P, E, N), sgX g ++ dy) sz) := by
  refine ent (by decide +kernel) (Nat.le_of_ble_eq_true rfl) ?_
  intro p e s m below meth c ls hsz C hW hr hlocks hname hl
  generalize FR g ((J, L, I, P, E, N), sgX g ++ dy) sz = A at C hW ⊢
  generalize hQ9 : (va_Qi (fun (r : Int32) (u : (Nat → Nat → Int32) × (Nat → Nat → Int64) × (Nat → Nat → Nat → Int32)) => ((r.toInt = (-1) ∧ (¬ (0 ≤ a0.toInt ∧ a0.toInt < (J 3 1).toInt))) ∨ (r.toInt = (-4) ∧ ((0 ≤ a0.toInt ∧ a0.toInt < (J 3 1).toInt) ∧ (a1.toInt < 0 ∨ a2.toInt < 1))) ∨ (r.toInt = (-6) ∧ ((0 ≤ a0.toInt ∧ a0.toInt < (J 3 1).toInt) ∧ 0 ≤ a1.toInt ∧ 1 ≤ a2.toInt ∧ (16777215 < a1.toInt ∨ 999 < a2.toInt))) ∨ (r.toInt = (-6) ∧ ((0 ≤ a0.toInt ∧ a0.toInt < (J 3 1).toInt) ∧ 0 ≤ a1.toInt ∧ a1.toInt ≤ 16777215 ∧ 1 ≤ a2.toInt ∧ a2.toInt ≤ 999 ∧ 12 < (CB (tN a1) 24 : Int))) ∨ (r = r ∧ ((0 ≤ a0.toInt ∧ a0.toInt < (J 3 1).toInt) ∧ 0 ≤ a1.toInt ∧ a1.toInt ≤ 16777215 ∧ 1 ≤ a2.toInt ∧ a2.toInt ≤ 999 ∧ (CB (tN a1) 24 : Int) ≤ 12) ∧ (∃ (w : Int32) (x x2 : Nat → Int32), WIF I P E N (J 25 2).toInt 2 a0.toInt (fun s m9 => SCL (J 116 a0.toNatClampNeg) (hrw a0.toInt) (J 118 a0.toNatClampNeg) s m9 (J 120 a0.toNatClampNeg) (J 3 1 - a0) (J 22 2)) (TLY (fun x => SND x (J 101) (fun k => I 6 1 (elt E P 20 k)) (fun k => I 6 3 (elt E P 20 k)) (fun k => I 6 5 (elt E P 20 k)) (CUTP (J 105) (J 106) (J 107) (J 21 2).toInt a0.toInt) (J 118 a0.toNatClampNeg) (J 120 a0.toNatClampNeg) (J 20 2).toInt) (J 116 a0.toNatClampNeg) (fun x => HF (J 116 a0.toNatClampNeg) (J 110) (J 111) a0.toInt (J 4 5) (J 109) (J 108) x) (J 22 2).toInt.toNat) w ∧ SND x (J 101) (fun k => I 6 1 (elt E P 20 k)) (fun k => I 6 3 (elt E P 20 k)) (fun k => I 6 5 (elt E P 20 k)) (CUTP (J 105) (J 106) (J 107) (J 21 2).toInt a0.toInt) (J 118 a0.toNatClampNeg) (J 120 a0.toNatClampNeg) (J 20 2).toInt ∧ SND x2 (J 101) (fun k => I 6 1 (elt E P 20 k)) (fun k => I 6 3 (elt E P 20 k)) (fun k => I 6 5 (elt E P 20 k)) (CUTP (J 105) (J 106) (J 107) (J 21 2).toInt (-1 : Int32).toInt) a2 (J 4 4) (J 20 2).toInt ∧ ((¬ w.toInt ≤ ((CNT (fun h => LSP (J 116 a0.toNatClampNeg) (J 110) (J 111) a0.toInt (J 4 5) (J 109) (J 108) x x2 h ∧ HIT (J 110 h) a1) (J 22 2).toInt.toNat : Nat) : Int) ∧ r.toInt = -9) ∨ (w.toInt ≤ ((CNT (fun h => LSP (J 116 a0.toNatClampNeg) (J 110) (J 111) a0.toInt (J 4 5) (J 109) (J 108) x x2 h ∧ HIT (J 110 h) a1) (J 22 2).toInt.toNat : Nat) : Int) ∧ r.toInt = (BSF (fun t => w.toInt ≤ ((CNT (fun h => LSP (J 116 a0.toNatClampNeg) (J 110) (J 111) a0.toInt (J 4 5) (J 109) (J 108) x x2 h ∧ HIT (J 110 h) (SQ a1 t)) (J 22 2).toInt.toNat : Nat) : Int)) (fun t => CB (tN (SQ a1 t)) 32) (fun t => (SQ a1 t).toInt) (2 ^ CB (tN a1) 24)).1)))))) (fun u t => at_ g A (((hv J [42, 45] [(4, 6), (4, 7), (8, 1), (8, 2), (8, 3), (8, 4), (8, 5), (8, 6), (8, 7), (8, 8), (8, 9)] u.1), (hv L [47] [] u.2.1), (hv I [] [(6, 6), (6, 7)] u.2.2), P, E, N), sgX g ++ dy) t) A) = Q9
  have hx := C.1.1
  have hb := C.1.2.1
  have hts := C.1.2.2.2.2
  have hl : lv_has ls 7 [(0, .ref (g.2.2.1 12)), (1, .int a0), (2, .int a1), (3, .int a2)] := hl
  obtain ⟨H, hH⟩ : ∃ H : Heap, H = s.heap := ⟨_, rfl⟩
  obtain ⟨locs, hlocs⟩ : ∃ q : List Loc, q = [] := ⟨_, rfl⟩
  have hW : WB g A s.heap H locs (J, L, I, P, E, N) (sgX g ++ dy) := by rw [hH, hlocs]; exact hW
  refine start_ hH hlocs ?_
  refine lv_aload_n hx hb dX11_rights_0 rfl (lv_at hl 0 rfl) ?_
  refine rg_12_1 C hW (mx_ rfl) tw_365 dX11_rights_1 ?_
  refine lv_iload_n hx hb dX11_rights_4 rfl (lv_at hl 1 rfl) ?_
  refine cq_ C hW (runV (x := (g.2.2.1 3)) (As := [.int a0]) (rest := []) (T := ((J, L, I, P, E, N), sgX g ++ dy)) C hW (c_X2_spanOf_e l g J L I P E N dy H.size a0 hwf (show SPR I E P (J 27 2).toInt (J 3 1).toInt (J 116) (J 117) (J 118) (J 119) (J 120) from hspr)) mi_X2_spanOf tw_639 (recv_ (T := ((J, L, I, P, E, N), sgX g ++ dy)) C hW (mx_ rfl) rfl rfl) ⟨rfl, rfl, Nat.le_of_ble_eq_true rfl, Nat.le_of_ble_eq_true rfl⟩ rfl hl.1 rfl (Nat.le_of_ble_eq_true rfl) dX11_rights_5 ⟨Nat.le_of_ble_eq_true rfl, Nat.le_of_ble_eq_true rfl⟩) (fun q1 u1 H locs hp1 hW => ?_)
  have hq1 : ((q1 = none ∧ (¬ (0 ≤ a0.toInt ∧ a0.toInt < (J 3 1).toInt))) ∨ (∃ o9 : Nat, q1 = some o9 ∧ (9, o9) ∈ dy ∧ (0 ≤ a0.toInt ∧ a0.toInt < (J 3 1).toInt ∧ (I 9 0 o9).toInt ≤ a0.toInt ∧ a0.toInt ≤ (I 9 1 o9).toInt ∧ SPO I o9 (J 3 1).toInt (J 116) (J 117) (J 118) (J 119) (J 120)))) := hp1
  clear hp1
  have hW : WB g A s.heap H locs (J, L, I, P, E, N) (sgX g ++ dy) := hW
  rcases hq1 with ⟨ho1, hn1⟩ | ⟨o1, ho1, hm1, hs1⟩ <;> subst ho1
  · refine lv_asv (v' := .null) rfl ?_
    refine lv_astoreN (lv' := [(4, .null), (0, .ref (g.2.2.1 12)), (1, .int a0), (2, .int a1), (3, .int a2)]) hx hb dX11_rights_8 hl (by decide) rfl (fun ls hl => ?_)
    refine lv_aloadN hx hb dX11_rights_10 (lv_at hl 0 rfl) ?_
    refine lv_iload_n hx hb dX11_rights_12 rfl (lv_at hl 3 rfl) ?_
    refine lv_iload_n hx hb dX11_rights_13 rfl (lv_at hl 4 rfl) ?_
    refine ci_ C hW (runS (As := [.null, .int a1, .int a2]) (rest := []) (T := ((J, L, I, P, E, N), sgX g ++ dy)) C hW (c_X11_correctionRefusal_n_e l g J L I P E N dy H.size a1 a2 ) mi_X11_correctionRefusal tw_899 ⟨rfl, rfl, Nat.le_of_ble_eq_true rfl, Nat.le_of_ble_eq_true rfl⟩ rfl hl.1 rfl (Nat.le_of_ble_eq_true rfl) dX11_rights_14 ⟨Nat.le_of_ble_eq_true rfl, Nat.le_of_ble_eq_true rfl⟩) (fun r2 u2 H locs hp2 hW => ?_)
    have hc2 : ((r2.toInt = (-1))) := hp2
    clear hp2
    have hW : WB g A s.heap H locs (J, L, I, P, E, N) (sgX g ++ dy) := hW
    refine lv_istore (lv' := [(5, .int r2), (4, .null), (0, .ref (g.2.2.1 12)), (1, .int a0), (2, .int a1), (3, .int a2)]) hx hb dX11_rights_17 hl (by decide) rfl (fun ls hl => ?_)
    refine lv_iload hx hb dX11_rights_19 (lv_at hl 0 rfl) ?_
    refine lv_if_ne (tgt := 29) hx hb dX11_rights_21 (by decide) (fun c3 => ?_) (fun c3 => ?_)
    · have c3 : ¬ r2.toInt = 0 := tne rfl kp0 c3
      refine lv_aload_n hx hb dX11_rights_29 rfl (lv_at hl 2 rfl) ?_
      refine lv_iload hx hb dX11_rights_30 (lv_at hl 0 rfl) ?_
      refine ci_ C hW (runV (x := (g.2.2.1 12)) (As := [.int r2]) (rest := []) (T := ((J, L, I, P, E, N), sgX g ++ dy)) C hW (c_X11_refuse l g J L I P E N dy H.size r2 hwf) mi_X11_refuse tw_411 (recv_ (T := ((J, L, I, P, E, N), sgX g ++ dy)) C hW (mx_ rfl) rfl rfl) ⟨rfl, rfl, Nat.le_of_ble_eq_true rfl, Nat.le_of_ble_eq_true rfl⟩ rfl hl.1 rfl (Nat.le_of_ble_eq_true rfl) dX11_rights_32 ⟨Nat.le_of_ble_eq_true rfl, Nat.le_of_ble_eq_true rfl⟩) (fun r4 u4 H locs hp4 hW => ?_)
      have hc4 : ((r4 = r2)) := hp4
      clear hp4
      have hr4 : r4.toInt = (r2).toInt := by rw [hc4]
      have hW : WB g A s.heap H locs ((hv J [42] [] u4), L, I, P, E, N) (sgX g ++ dy) := hW
      have hWr : WB g A s.heap H locs ((hv J [42, 45] [(4, 6), (4, 7), (8, 1), (8, 2), (8, 3), (8, 4), (8, 5), (8, 6), (8, 7), (8, 8), (8, 9)] (hv J [42] [] u4)), (hv L [47] [] L), (hv I [] [(6, 6), (6, 7)] I), P, E, N) (sgX g ++ dy) := by
        rw [← ag_hvE (J := J) (R := [42, 45]) (F := [(4, 6), (4, 7), (8, 1), (8, 2), (8, 3), (8, 4), (8, 5), (8, 6), (8, 7), (8, 8), (8, 9)]) (ag_hv rfl rfl ag_rf)]
        rw [← ag_hvE (J := L) (R := [47]) (F := []) ag_rf]
        rw [← ag_hvE (J := I) (R := []) (F := [(6, 6), (6, 7)]) ag_rf]
        exact hW
      subst hQ9
      exact end_i C hr hlocks ((hv J [42] [] u4), L, I) hWr (by first | exact Or.inl ⟨by omega, by omega⟩ | exact Or.inr (Or.inl ⟨by omega, by omega⟩) | exact Or.inr (Or.inr (Or.inl ⟨by omega, by omega⟩))) dX11_rights_35
    · have c3 : r2.toInt = 0 := teq rfl kp0 c3
      refine lv_aloadN hx hb dX11_rights_24 (lv_at hl 1 rfl) ?_
      refine lv_ifnonnullN hx hb dX11_rights_26 ?_
      refine lv_aload_n hx hb dX11_rights_29 rfl (lv_at hl 2 rfl) ?_
      refine lv_iload hx hb dX11_rights_30 (lv_at hl 0 rfl) ?_
      refine ci_ C hW (runV (x := (g.2.2.1 12)) (As := [.int r2]) (rest := []) (T := ((J, L, I, P, E, N), sgX g ++ dy)) C hW (c_X11_refuse l g J L I P E N dy H.size r2 hwf) mi_X11_refuse tw_411 (recv_ (T := ((J, L, I, P, E, N), sgX g ++ dy)) C hW (mx_ rfl) rfl rfl) ⟨rfl, rfl, Nat.le_of_ble_eq_true rfl, Nat.le_of_ble_eq_true rfl⟩ rfl hl.1 rfl (Nat.le_of_ble_eq_true rfl) dX11_rights_32 ⟨Nat.le_of_ble_eq_true rfl, Nat.le_of_ble_eq_true rfl⟩) (fun r5 u5 H locs hp5 hW => ?_)
      have hc5 : ((r5 = r2)) := hp5
      clear hp5
      have hr5 : r5.toInt = (r2).toInt := by rw [hc5]
      have hW : WB g A s.heap H locs ((hv J [42] [] u5), L, I, P, E, N) (sgX g ++ dy) := hW
      have hWr : WB g A s.heap H locs ((hv J [42, 45] [(4, 6), (4, 7), (8, 1), (8, 2), (8, 3), (8, 4), (8, 5), (8, 6), (8, 7), (8, 8), (8, 9)] (hv J [42] [] u5)), (hv L [47] [] L), (hv I [] [(6, 6), (6, 7)] I), P, E, N) (sgX g ++ dy) := by
        rw [← ag_hvE (J := J) (R := [42, 45]) (F := [(4, 6), (4, 7), (8, 1), (8, 2), (8, 3), (8, 4), (8, 5), (8, 6), (8, 7), (8, 8), (8, 9)]) (ag_hv rfl rfl ag_rf)]
        rw [← ag_hvE (J := L) (R := [47]) (F := []) ag_rf]
        rw [← ag_hvE (J := I) (R := []) (F := [(6, 6), (6, 7)]) ag_rf]
        exact hW
      subst hQ9
      exact end_i C hr hlocks ((hv J [42] [] u5), L, I) hWr (by first | exact Or.inl ⟨by omega, by omega⟩ | exact Or.inr (Or.inl ⟨by omega, by omega⟩) | exact Or.inr (Or.inr (Or.inl ⟨by omega, by omega⟩))) dX11_rights_35
  · refine lv_asv (v' := .ref o1) rfl ?_
    obtain ⟨hsK1, hsR1, hsV1, hsO1, hsT1⟩ := spo_at hs1
    have hsk1 := congrArg Int32.toInt hsK1
    refine lv_astore (lv' := [(4, .ref o1), (0, .ref (g.2.2.1 12)), (1, .int a0), (2, .int a1), (3, .int a2)]) hx hb dX11_rights_8 hl (by decide) rfl (fun ls hl => ?_)
    refine lv_aload hx hb dX11_rights_10 (lv_at hl 0 rfl) ?_
    refine lv_iload_n hx hb dX11_rights_12 rfl (lv_at hl 3 rfl) ?_
    refine lv_iload_n hx hb dX11_rights_13 rfl (lv_at hl 4 rfl) ?_
    refine ci_ C hW (runS (As := [.ref o1, .int a1, .int a2]) (rest := []) (T := ((J, L, I, P, E, N), sgX g ++ dy)) C hW (c_X11_correctionRefusal_e l g J L I P E N dy H.size o1 hm1 a1 a2 ) mi_X11_correctionRefusal tw_899 ⟨rfl, rfl, Nat.le_of_ble_eq_true rfl, Nat.le_of_ble_eq_true rfl⟩ rfl hl.1 rfl (Nat.le_of_ble_eq_true rfl) dX11_rights_14 ⟨Nat.le_of_ble_eq_true rfl, Nat.le_of_ble_eq_true rfl⟩) (fun r6 u6 H locs hp6 hW => ?_)
    have hc6 : ((r6.toInt = (-4) ∧ (a1.toInt < 0 ∨ a2.toInt < 1)) ∨ (r6.toInt = (-6) ∧ (0 ≤ a1.toInt ∧ 1 ≤ a2.toInt ∧ (16777215 < a1.toInt ∨ 999 < a2.toInt))) ∨ (r6.toInt = 0 ∧ (0 ≤ a1.toInt ∧ a1.toInt ≤ 16777215 ∧ 1 ≤ a2.toInt ∧ a2.toInt ≤ 999))) := hp6
    clear hp6
    have hW : WB g A s.heap H locs (J, L, I, P, E, N) (sgX g ++ dy) := hW
    refine lv_istore (lv' := [(5, .int r6), (4, .ref o1), (0, .ref (g.2.2.1 12)), (1, .int a0), (2, .int a1), (3, .int a2)]) hx hb dX11_rights_17 hl (by decide) rfl (fun ls hl => ?_)
    refine lv_iload hx hb dX11_rights_19 (lv_at hl 0 rfl) ?_
    refine lv_if_ne (tgt := 29) hx hb dX11_rights_21 (by decide) (fun c7 => ?_) (fun c7 => ?_)
    · have c7 : ¬ r6.toInt = 0 := tne rfl kp0 c7
      refine lv_aload_n hx hb dX11_rights_29 rfl (lv_at hl 2 rfl) ?_
      refine lv_iload hx hb dX11_rights_30 (lv_at hl 0 rfl) ?_
      refine ci_ C hW (runV (x := (g.2.2.1 12)) (As := [.int r6]) (rest := []) (T := ((J, L, I, P, E, N), sgX g ++ dy)) C hW (c_X11_refuse l g J L I P E N dy H.size r6 hwf) mi_X11_refuse tw_411 (recv_ (T := ((J, L, I, P, E, N), sgX g ++ dy)) C hW (mx_ rfl) rfl rfl) ⟨rfl, rfl, Nat.le_of_ble_eq_true rfl, Nat.le_of_ble_eq_true rfl⟩ rfl hl.1 rfl (Nat.le_of_ble_eq_true rfl) dX11_rights_32 ⟨Nat.le_of_ble_eq_true rfl, Nat.le_of_ble_eq_true rfl⟩) (fun r8 u8 H locs hp8 hW => ?_)
      have hc8 : ((r8 = r6)) := hp8
      clear hp8
      have hr8 : r8.toInt = (r6).toInt := by rw [hc8]
      have hW : WB g A s.heap H locs ((hv J [42] [] u8), L, I, P, E, N) (sgX g ++ dy) := hW
      have hWr : WB g A s.heap H locs ((hv J [42, 45] [(4, 6), (4, 7), (8, 1), (8, 2), (8, 3), (8, 4), (8, 5), (8, 6), (8, 7), (8, 8), (8, 9)] (hv J [42] [] u8)), (hv L [47] [] L), (hv I [] [(6, 6), (6, 7)] I), P, E, N) (sgX g ++ dy) := by
        rw [← ag_hvE (J := J) (R := [42, 45]) (F := [(4, 6), (4, 7), (8, 1), (8, 2), (8, 3), (8, 4), (8, 5), (8, 6), (8, 7), (8, 8), (8, 9)]) (ag_hv rfl rfl ag_rf)]
        rw [← ag_hvE (J := L) (R := [47]) (F := []) ag_rf]
        rw [← ag_hvE (J := I) (R := []) (F := [(6, 6), (6, 7)]) ag_rf]
        exact hW
      subst hQ9
      exact end_i C hr hlocks ((hv J [42] [] u8), L, I) hWr (by first | exact Or.inl ⟨by omega, by omega⟩ | exact Or.inr (Or.inl ⟨by omega, by omega⟩) | exact Or.inr (Or.inr (Or.inl ⟨by omega, by omega⟩)) | (rcases hc6 with qhc6 | qhc6 | qhc6 <;> first | exact Or.inl ⟨by omega, by omega⟩ | exact Or.inr (Or.inl ⟨by omega, by omega⟩) | exact Or.inr (Or.inr (Or.inl ⟨by omega, by omega⟩)) | (exfalso; omega))) dX11_rights_35
    · have c7 : r6.toInt = 0 := teq rfl kp0 c7
      refine lv_aload hx hb dX11_rights_24 (lv_at hl 1 rfl) ?_
      refine lv_ifnonnull (tgt := 36) hx hb dX11_rights_26 (by decide) ?_
      refine lv_iload_n hx hb dX11_rights_36 rfl (lv_at hl 4 rfl) ?_
      refine ci_ C hW (runS (As := [.int a1]) (rest := []) (T := ((J, L, I, P, E, N), sgX g ++ dy)) C hW (c_J6_bitCount_0f7a4_e l g J L I P E N dy H.size a1 ) mi_J6_bitCount_0f7a4 tw_927 ⟨rfl, rfl, Nat.le_of_ble_eq_true rfl, Nat.le_of_ble_eq_true rfl⟩ rfl hl.1 rfl (Nat.le_of_ble_eq_true rfl) dX11_rights_37 ⟨Nat.le_of_ble_eq_true rfl, Nat.le_of_ble_eq_true rfl⟩) (fun r9 u9 H locs hp9 hW => ?_)
      have hf9_0 : (r9.toInt = ((CB (tN a1) 32 : Nat) : Int)) := hp9
      clear hp9
      have hW : WB g A s.heap H locs (J, L, I, P, E, N) (sgX g ++ dy) := hW
      have hBC := hf9_0
      have hh24 : tN a1 < 2 ^ 24 := (by have h8 := tN_i (a := a1) (by omega); omega)
      rw [cb_pow hh24 32 (by decide)] at hBC
      refine lv_bipush (v := 12) hx hb dX11_rights_40 (by decide) ?_
      refine lv_icmp_le (tgt := 52) hx hb dX11_rights_42 (by decide) (fun c10 => ?_) (fun c10 => ?_)
      · have c10 : r9.toInt ≤ 12 := tle rfl kp12 c10
        refine lv_aload_n hx hb dX11_rights_52 rfl (lv_at hl 2 rfl) ?_
        refine lv_iconst (v := 2) hx hb dX11_rights_53 (by decide) ?_
        refine lv_aload hx hb dX11_rights_54 (lv_at hl 1 rfl) ?_
        refine lv_iload_n hx hb dX11_rights_56 rfl (lv_at hl 3 rfl) ?_
        refine ci_ C hW (runV (x := (g.2.2.1 12)) (As := [.int 2, .ref o1, .int a0]) (rest := []) (T := ((J, L, I, P, E, N), sgX g ++ dy)) C hW (c_X11_worthIn_e l g J L I P E N dy H.size 2 o1 hm1 a0 hwf (show NTR (P 6 0) (elt E P 20) (J 101) (J 20 2).toInt from by (try simp only [kp2]); omega) (show INJ E P 20 (J 20 2).toInt from by (try simp only [kp2]); omega) (show CUR (P 1 0) (I 1 1) (I 1 2) (elt E P 21) (elt E P 20) (J 105) (J 106) (J 107) (J 21 2).toInt (J 20 2).toInt from by (try simp only [kp2]); omega) (show HMR (P 2 0) (I 2 1) (I 2 2) (I 2 3) (elt E P 22) (elt E P 20) (J 108) (J 109) (J 110) (J 111) (J 22 2).toInt (J 20 2).toInt from by (try simp only [kp2]); omega) (show 0 ≤ a0.toInt ∧ a0.toInt ≤ 9999 from (by (try simp only [kp2]); omega)) (show CDB I P E N (J 25 2).toInt from hcdb) (show 0 ≤ (J 3 1).toInt ∧ (J 3 1).toInt ≤ 9999 from hnw9)) mi_X11_worthIn tw_826 (recv_ (T := ((J, L, I, P, E, N), sgX g ++ dy)) C hW (mx_ rfl) rfl rfl) ⟨rfl, rfl, Nat.le_of_ble_eq_true rfl, Nat.le_of_ble_eq_true rfl⟩ rfl hl.1 rfl (Nat.le_of_ble_eq_true rfl) dX11_rights_57 ⟨Nat.le_of_ble_eq_true rfl, Nat.le_of_ble_eq_true rfl⟩) (fun r11 u11 H locs hp11 hW => ?_)
        have hf11_0 : (WIF I P E N (J 25 2).toInt 2 a0.toInt (fun s m9 => SCL (I 9 2 o1) (hrw a0.toInt) (I 9 5 o1) s m9 (I 9 3 o1) (J 3 1 - a0) (J 22 2)) (TLY (fun x => SND x (J 101) (fun k => I 6 1 (elt E P 20 k)) (fun k => I 6 3 (elt E P 20 k)) (fun k => I 6 5 (elt E P 20 k)) (CUTP (J 105) (J 106) (J 107) (J 21 2).toInt a0.toInt) (I 9 5 o1) (I 9 3 o1) (J 20 2).toInt) (I 9 2 o1) (fun x => HF (I 9 2 o1) (J 110) (J 111) a0.toInt (J 4 5) (J 109) (J 108) x) (J 22 2).toInt.toNat) r11) := hp11
        clear hp11
        have hW : WB g A s.heap H locs ((hv J [45] [(4, 6), (4, 7), (8, 1), (8, 2), (8, 3), (8, 4), (8, 5), (8, 6), (8, 7), (8, 8), (8, 9)] u11.1), L, (hv I [] [(6, 6), (6, 7)] u11.2), P, E, N) (sgX g ++ dy) := hW
        have hWI := hf11_0
        refine lv_istore (lv' := [(6, .int r11), (5, .int r6), (4, .ref o1), (0, .ref (g.2.2.1 12)), (1, .int a0), (2, .int a1), (3, .int a2)]) hx hb dX11_rights_60 hl (by decide) rfl (fun ls hl => ?_)
        refine lv_aload_n hx hb dX11_rights_62 rfl (lv_at hl 3 rfl) ?_
        refine rg_12_0 C hW (mx_ rfl) tw_364 dX11_rights_63 ?_
        refine lv_aload hx hb dX11_rights_66 (lv_at hl 2 rfl) ?_
        refine lv_iload_n hx hb dX11_rights_68 rfl (lv_at hl 4 rfl) ?_
        refine lv_iload_n hx hb dX11_rights_69 rfl (lv_at hl 6 rfl) ?_
        refine cv_ C hW (runV (x := (g.2.2.1 4)) (As := [.ref o1, .int a0, .int a2]) (rest := []) (T := (((hv J [45] [(4, 6), (4, 7), (8, 1), (8, 2), (8, 3), (8, 4), (8, 5), (8, 6), (8, 7), (8, 8), (8, 9)] u11.1), L, (hv I [] [(6, 6), (6, 7)] u11.2), P, E, N), sgX g ++ dy)) C hW (c_X3_findListeners_e l g (hv J [45] [(4, 6), (4, 7), (8, 1), (8, 2), (8, 3), (8, 4), (8, 5), (8, 6), (8, 7), (8, 8), (8, 9)] u11.1) L (hv I [] [(6, 6), (6, 7)] u11.2) P E N dy H.size o1 hm1 a0 a2 hwf (show NTR (P 6 0) (elt E P 20) (J 101) (J 20 2).toInt from by omega) (show INJ E P 20 (J 20 2).toInt from by omega) (show CUR (P 1 0) ((hv I [] [(6, 6), (6, 7)] u11.2) 1 1) ((hv I [] [(6, 6), (6, 7)] u11.2) 1 2) (elt E P 21) (elt E P 20) (J 105) (J 106) (J 107) (J 21 2).toInt (J 20 2).toInt from hcu) (show HMR (P 2 0) ((hv I [] [(6, 6), (6, 7)] u11.2) 2 1) ((hv I [] [(6, 6), (6, 7)] u11.2) 2 2) ((hv I [] [(6, 6), (6, 7)] u11.2) 2 3) (elt E P 22) (elt E P 20) (J 108) (J 109) (J 110) (J 111) (J 22 2).toInt (J 20 2).toInt from hhm) (show 0 ≤ a0.toInt ∧ a0.toInt ≤ 9999 from by omega) (show (J 22 2).toInt ≤ 40 from by omega)) mi_X3_findListeners tw_902 (recv_ (T := (((hv J [45] [(4, 6), (4, 7), (8, 1), (8, 2), (8, 3), (8, 4), (8, 5), (8, 6), (8, 7), (8, 8), (8, 9)] u11.1), L, (hv I [] [(6, 6), (6, 7)] u11.2), P, E, N), sgX g ++ dy)) C hW (mx_ rfl) rfl rfl) ⟨rfl, rfl, Nat.le_of_ble_eq_true rfl, Nat.le_of_ble_eq_true rfl⟩ rfl hl.1 rfl (Nat.le_of_ble_eq_true rfl) dX11_rights_70 ⟨Nat.le_of_ble_eq_true rfl, Nat.le_of_ble_eq_true rfl⟩) (fun u12 H locs hp12 hW => ?_)
        have hf12_0 : (∃ x x2 : Nat → Int32, SND x (J 101) (fun k => (hv I [] [(6, 6), (6, 7)] u11.2) 6 1 (elt E P 20 k)) (fun k => (hv I [] [(6, 6), (6, 7)] u11.2) 6 3 (elt E P 20 k)) (fun k => (hv I [] [(6, 6), (6, 7)] u11.2) 6 5 (elt E P 20 k)) (CUTP (J 105) (J 106) (J 107) (J 21 2).toInt a0.toInt) ((hv I [] [(6, 6), (6, 7)] u11.2) 9 5 o1) ((hv I [] [(6, 6), (6, 7)] u11.2) 9 3 o1) (J 20 2).toInt ∧ SND x2 (J 101) (fun k => (hv I [] [(6, 6), (6, 7)] u11.2) 6 1 (elt E P 20 k)) (fun k => (hv I [] [(6, 6), (6, 7)] u11.2) 6 3 (elt E P 20 k)) (fun k => (hv I [] [(6, 6), (6, 7)] u11.2) 6 5 (elt E P 20 k)) (CUTP (J 105) (J 106) (J 107) (J 21 2).toInt (-1 : Int32).toInt) a2 (J 4 4) (J 20 2).toInt ∧ LSTN (u12.1 47) (J 110) (LSP ((hv I [] [(6, 6), (6, 7)] u11.2) 9 2 o1) (J 110) (J 111) a0.toInt (J 4 5) (J 109) (J 108) x x2) (J 22 2).toInt) := hp12
        clear hp12
        have hW : WB g A s.heap H locs ((hv J [45] [(4, 6), (4, 7), (8, 1), (8, 2), (8, 3), (8, 4), (8, 5), (8, 6), (8, 7), (8, 8), (8, 9)] u11.1), (hv L [47] [] u12.1), (hv (hv I [] [(6, 6), (6, 7)] u11.2) [] [(6, 6), (6, 7)] u12.2), P, E, N) (sgX g ++ dy) := hW
        have hFL := hf12_0
        refine lv_aload_n hx hb dX11_rights_73 rfl (lv_at hl 3 rfl) ?_
        refine rg_12_0 C hW (mx_ rfl) tw_364 dX11_rights_74 ?_
        refine lv_iload_n hx hb dX11_rights_77 rfl (lv_at hl 5 rfl) ?_
        refine lv_iload hx hb dX11_rights_78 (lv_at hl 0 rfl) ?_
        refine ci_ C hW (runV (x := (g.2.2.1 4)) (As := [.int a1, .int r11]) (rest := []) (T := (((hv J [45] [(4, 6), (4, 7), (8, 1), (8, 2), (8, 3), (8, 4), (8, 5), (8, 6), (8, 7), (8, 8), (8, 9)] u11.1), (hv L [47] [] u12.1), (hv (hv I [] [(6, 6), (6, 7)] u11.2) [] [(6, 6), (6, 7)] u12.2), P, E, N), sgX g ++ dy)) C hW (c_X3_fewestHours_e l g (hv J [45] [(4, 6), (4, 7), (8, 1), (8, 2), (8, 3), (8, 4), (8, 5), (8, 6), (8, 7), (8, 8), (8, 9)] u11.1) (hv L [47] [] u12.1) (hv (hv I [] [(6, 6), (6, 7)] u11.2) [] [(6, 6), (6, 7)] u12.2) P E N dy H.size a1 r11 hwf (show 0 ≤ a1.toInt ∧ a1.toInt ≤ 16777215 from by omega) (show CB (tN a1) 24 ≤ 12 from (by omega))) mi_X3_fewestHours tw_928 (recv_ (T := (((hv J [45] [(4, 6), (4, 7), (8, 1), (8, 2), (8, 3), (8, 4), (8, 5), (8, 6), (8, 7), (8, 8), (8, 9)] u11.1), (hv L [47] [] u12.1), (hv (hv I [] [(6, 6), (6, 7)] u11.2) [] [(6, 6), (6, 7)] u12.2), P, E, N), sgX g ++ dy)) C hW (mx_ rfl) rfl rfl) ⟨rfl, rfl, Nat.le_of_ble_eq_true rfl, Nat.le_of_ble_eq_true rfl⟩ rfl hl.1 rfl (Nat.le_of_ble_eq_true rfl) dX11_rights_80 ⟨Nat.le_of_ble_eq_true rfl, Nat.le_of_ble_eq_true rfl⟩) (fun r13 u13 H locs hp13 hW => ?_)
        have hf13_0 : ((¬ r11.toInt ≤ ((CNT (fun h => CVR ((hv L [47] [] u12.1) 47) a1 h) 64 : Nat) : Int) ∧ r13.toInt = -9) ∨ (r11.toInt ≤ ((CNT (fun h => CVR ((hv L [47] [] u12.1) 47) a1 h) 64 : Nat) : Int) ∧ r13.toInt = (BSF (fun t => r11.toInt ≤ ((CNT (fun h => CVR ((hv L [47] [] u12.1) 47) (SQ a1 t) h) 64 : Nat) : Int)) (fun t => CB (tN (SQ a1 t)) 32) (fun t => (SQ a1 t).toInt) (2 ^ CB (tN a1) 24)).1)) := hp13
        clear hp13
        have hW : WB g A s.heap H locs ((hv J [45] [(4, 6), (4, 7), (8, 1), (8, 2), (8, 3), (8, 4), (8, 5), (8, 6), (8, 7), (8, 8), (8, 9)] u11.1), (hv L [47] [] u12.1), (hv (hv I [] [(6, 6), (6, 7)] u11.2) [] [(6, 6), (6, 7)] u12.2), P, E, N) (sgX g ++ dy) := hW
        have hFH := hf13_0
        have hWr : WB g A s.heap H locs ((hv J [42, 45] [(4, 6), (4, 7), (8, 1), (8, 2), (8, 3), (8, 4), (8, 5), (8, 6), (8, 7), (8, 8), (8, 9)] (hv J [45] [(4, 6), (4, 7), (8, 1), (8, 2), (8, 3), (8, 4), (8, 5), (8, 6), (8, 7), (8, 8), (8, 9)] u11.1)), (hv L [47] [] (hv L [47] [] u12.1)), (hv I [] [(6, 6), (6, 7)] (hv (hv I [] [(6, 6), (6, 7)] u11.2) [] [(6, 6), (6, 7)] u12.2)), P, E, N) (sgX g ++ dy) := by
          rw [← ag_hvE (J := J) (R := [42, 45]) (F := [(4, 6), (4, 7), (8, 1), (8, 2), (8, 3), (8, 4), (8, 5), (8, 6), (8, 7), (8, 8), (8, 9)]) (ag_hv rfl rfl ag_rf)]
          rw [← ag_hvE (J := L) (R := [47]) (F := []) (ag_hv rfl rfl ag_rf)]
          rw [← ag_hvE (J := I) (R := []) (F := [(6, 6), (6, 7)]) (ag_hv rfl rfl (ag_hv rfl rfl ag_rf))]
          exact hW
        subst hQ9
        exact end_i C hr hlocks ((hv J [45] [(4, 6), (4, 7), (8, 1), (8, 2), (8, 3), (8, 4), (8, 5), (8, 6), (8, 7), (8, 8), (8, 9)] u11.1), (hv L [47] [] u12.1), (hv (hv I [] [(6, 6), (6, 7)] u11.2) [] [(6, 6), (6, 7)] u12.2)) hWr (by first | exact Or.inr (Or.inr (Or.inr (Or.inr (⟨by first | rfl | assumption, by omega, show (∃ (w : Int32) (x x2 : Nat → Int32), WIF I P E N (J 25 2).toInt 2 a0.toInt (fun s m9 => SCL (J 116 a0.toNatClampNeg) (hrw a0.toInt) (J 118 a0.toNatClampNeg) s m9 (J 120 a0.toNatClampNeg) (J 3 1 - a0) (J 22 2)) (TLY (fun x => SND x (J 101) (fun k => I 6 1 (elt E P 20 k)) (fun k => I 6 3 (elt E P 20 k)) (fun k => I 6 5 (elt E P 20 k)) (CUTP (J 105) (J 106) (J 107) (J 21 2).toInt a0.toInt) (J 118 a0.toNatClampNeg) (J 120 a0.toNatClampNeg) (J 20 2).toInt) (J 116 a0.toNatClampNeg) (fun x => HF (J 116 a0.toNatClampNeg) (J 110) (J 111) a0.toInt (J 4 5) (J 109) (J 108) x) (J 22 2).toInt.toNat) w ∧ SND x (J 101) (fun k => I 6 1 (elt E P 20 k)) (fun k => I 6 3 (elt E P 20 k)) (fun k => I 6 5 (elt E P 20 k)) (CUTP (J 105) (J 106) (J 107) (J 21 2).toInt a0.toInt) (J 118 a0.toNatClampNeg) (J 120 a0.toNatClampNeg) (J 20 2).toInt ∧ SND x2 (J 101) (fun k => I 6 1 (elt E P 20 k)) (fun k => I 6 3 (elt E P 20 k)) (fun k => I 6 5 (elt E P 20 k)) (CUTP (J 105) (J 106) (J 107) (J 21 2).toInt (-1 : Int32).toInt) a2 (J 4 4) (J 20 2).toInt ∧ ((¬ w.toInt ≤ ((CNT (fun h => LSP (J 116 a0.toNatClampNeg) (J 110) (J 111) a0.toInt (J 4 5) (J 109) (J 108) x x2 h ∧ HIT (J 110 h) a1) (J 22 2).toInt.toNat : Nat) : Int) ∧ r13.toInt = -9) ∨ (w.toInt ≤ ((CNT (fun h => LSP (J 116 a0.toNatClampNeg) (J 110) (J 111) a0.toInt (J 4 5) (J 109) (J 108) x x2 h ∧ HIT (J 110 h) a1) (J 22 2).toInt.toNat : Nat) : Int) ∧ r13.toInt = (BSF (fun t => w.toInt ≤ ((CNT (fun h => LSP (J 116 a0.toNatClampNeg) (J 110) (J 111) a0.toInt (J 4 5) (J 109) (J 108) x x2 h ∧ HIT (J 110 h) (SQ a1 t)) (J 22 2).toInt.toNat : Nat) : Int)) (fun t => CB (tN (SQ a1 t)) 32) (fun t => (SQ a1 t).toInt) (2 ^ CB (tN a1) 24)).1))) from (by obtain ⟨x9, x8, h1, h2, h3⟩ := hFL; have h1 : SND x9 (J 101) (fun k => I 6 1 (elt E P 20 k)) (fun k => I 6 3 (elt E P 20 k)) (fun k => I 6 5 (elt E P 20 k)) (CUTP (J 105) (J 106) (J 107) (J 21 2).toInt a0.toInt) (I 9 5 o1) (I 9 3 o1) (J 20 2).toInt := h1; have h3 : LSTN _ (J 110) (LSP (I 9 2 o1) (J 110) (J 111) a0.toInt (J 4 5) (J 109) (J 108) x9 x8) _ := h3; rw [hsV1, hsT1] at h1; rw [hsK1] at h3; rw [hsK1, hsV1, hsT1] at hWI; have hh24 : tN a1 < 2 ^ 24 := (by have h8 := tN_i (a := a1) (by omega); omega); exact ⟨_, x9, x8, hWI, h1, h2, fh_cnt h3 (by omega) hFH⟩)⟩))))) dX11_rights_83
      · have c10 : 12 < r9.toInt := tnle rfl kp12 c10
        refine lv_aload_n hx hb dX11_rights_45 rfl (lv_at hl 2 rfl) ?_
        refine lv_bipush (v := (-6)) hx hb dX11_rights_46 (by decide) ?_
        refine ci_ C hW (runV (x := (g.2.2.1 12)) (As := [.int (-6)]) (rest := []) (T := ((J, L, I, P, E, N), sgX g ++ dy)) C hW (c_X11_refuse l g J L I P E N dy H.size (-6) hwf) mi_X11_refuse tw_411 (recv_ (T := ((J, L, I, P, E, N), sgX g ++ dy)) C hW (mx_ rfl) rfl rfl) ⟨rfl, rfl, Nat.le_of_ble_eq_true rfl, Nat.le_of_ble_eq_true rfl⟩ rfl hl.1 rfl (Nat.le_of_ble_eq_true rfl) dX11_rights_48 ⟨Nat.le_of_ble_eq_true rfl, Nat.le_of_ble_eq_true rfl⟩) (fun r14 u14 H locs hp14 hW => ?_)
        have hc14 : ((r14 = (-6))) := hp14
        clear hp14
        have hr14 : r14.toInt = (-6) := by rw [hc14]; exact kn6
        have hW : WB g A s.heap H locs ((hv J [42] [] u14), L, I, P, E, N) (sgX g ++ dy) := hW
        have hWr : WB g A s.heap H locs ((hv J [42, 45] [(4, 6), (4, 7), (8, 1), (8, 2), (8, 3), (8, 4), (8, 5), (8, 6), (8, 7), (8, 8), (8, 9)] (hv J [42] [] u14)), (hv L [47] [] L), (hv I [] [(6, 6), (6, 7)] I), P, E, N) (sgX g ++ dy) := by
          rw [← ag_hvE (J := J) (R := [42, 45]) (F := [(4, 6), (4, 7), (8, 1), (8, 2), (8, 3), (8, 4), (8, 5), (8, 6), (8, 7), (8, 8), (8, 9)]) (ag_hv rfl rfl ag_rf)]
          rw [← ag_hvE (J := L) (R := [47]) (F := []) ag_rf]
          rw [← ag_hvE (J := I) (R := []) (F := [(6, 6), (6, 7)]) ag_rf]
          exact hW
        subst hQ9
        exact end_i C hr hlocks ((hv J [42] [] u14), L, I) hWr (by first | exact Or.inr (Or.inr (Or.inr (Or.inl ⟨by omega, by omega⟩))) | (rcases hc6 with qhc6 | qhc6 | qhc6 <;> first | exact Or.inr (Or.inr (Or.inr (Or.inl ⟨by omega, by omega⟩))) | (exfalso; omega))) dX11_rights_51
