set_option maxHeartbeats 4000000 in
set_option maxRecDepth 100000 in
theorem c_X12_account_k (l : Launch) (g : gG) (J : Nat → Nat → Int32) (L : Nat → Nat → Int64) (I : Nat → Nat → Nat → Int32) (P : Nat → Nat → Nat → Option Nat) (E : Nat → Option Nat) (N : Nat → Nat) (sz : Nat) (a0 : Int32) (a1 : Int32) (hwm : WM J) (hcac : CAC J) : Met l yX12_account (WS yX12_account cX12_account 7 (some .long)) (RM (35) 0 0) (PC g [.ref (g.2.2.1 13), .int a0, .int a1] ((J, L, I, P, E, N), sgM g) sz) (va_Ql (fun (r : Int64) (u : (Nat → Nat → Int32)) => (CAC (hv J [100, 146, 150, 151, 152, 154, 161, 162, 163, 164] [(13, 47), (13, 48), (13, 56), (13, 57), (13, 58), (13, 59), (13, 60)] u))) (fun u t => at_ g (FR g ((J, L, I, P, E, N), sgM g) sz) ((hv J [100, 146, 150, 151, 152, 154, 161, 162, 163, 164] [(13, 47), (13, 48), (13, 56), (13, 57), (13, 58), (13, 59), (13, 60)] u, L, I, P, E, N), sgM g) t) (FR g ((J, L, I, P, E, N), sgM g) sz)) 0 0 (FR g ((J, L, I, P, E, N), sgM g) sz) := by
  refine ent (by decide +kernel) (Nat.le_of_ble_eq_true rfl) ?_
  intro p e s m below meth c ls hsz C hW hr hlocks hname hl
  generalize FR g ((J, L, I, P, E, N), sgM g) sz = A at C hW ⊢
  generalize hQ9 : (va_Ql (fun (r : Int64) (u : (Nat → Nat → Int32)) => (CAC (hv J [100, 146, 150, 151, 152, 154, 161, 162, 163, 164] [(13, 47), (13, 48), (13, 56), (13, 57), (13, 58), (13, 59), (13, 60)] u))) (fun u t => at_ g A ((hv J [100, 146, 150, 151, 152, 154, 161, 162, 163, 164] [(13, 47), (13, 48), (13, 56), (13, 57), (13, 58), (13, 59), (13, 60)] u, L, I, P, E, N), sgM g) t) A) = Q9
  have hx := C.1.1
  have hb := C.1.2.1
  have hts := C.1.2.2.2.2
  have hW : WB g A s.heap s.heap [] (J, L, I, P, E, N) (sgM g) := hW
  have hl : lv_has ls 7 [(0, .ref (g.2.2.1 13)), (1, .int a0), (2, .int a1)] := hl
  obtain ⟨H, hH⟩ : ∃ H : Heap, H = s.heap := ⟨_, rfl⟩
  obtain ⟨locs, hlocs⟩ : ∃ q : List Loc, q = [] := ⟨_, rfl⟩
  have hW : WB g A s.heap H locs (J, L, I, P, E, N) (sgM g) := by rw [hH, hlocs]; exact hW
  obtain ⟨⟨hnd1, hnd2, hon, hhm1, hhm2, hhN, hcu1, hcu2, hco1, hco2, hcN⟩, ⟨hrd1, hrd2⟩, ⟨hnw1, hnw2, hns1, hns2, hof⟩, ⟨htm1, htm2, hts_⟩, ⟨had1, had2, hrw1, hrw2, htp1, htp2⟩⟩ := id hwm
  refine start_ hH hlocs ?_
  refine lv_aload_n hx hb dX12_account_0 rfl (lv_at hl 0 rfl) ?_
  refine lv_iload_n hx hb dX12_account_1 rfl (lv_at hl 1 rfl) ?_
  refine ci_ C hW (runV (x := (g.2.2.1 13)) (As := [.int a0]) (rest := []) (T := ((J, L, I, P, E, N), sgM g)) C hW (c_X12_isPast l g J L I P E N H.size a0 hwm) mi_X12_isPast tw_1326 (recv_ (T := ((J, L, I, P, E, N), sgM g)) C hW (mm_ rfl) rfl rfl) ⟨rfl, rfl, Nat.le_of_ble_eq_true rfl, Nat.le_of_ble_eq_true rfl⟩ rfl hl.1 rfl (Nat.le_of_ble_eq_true rfl) dX12_account_2 ⟨Nat.le_of_ble_eq_true rfl, Nat.le_of_ble_eq_true rfl⟩) (fun r1 u1 H locs hp1 hW => ?_)
  have hc1 : ((r1.toInt = 1 ∧ (0 ≤ a0.toInt ∧ a0.toInt < (J 13 31).toInt)) ∨ (r1.toInt = 0 ∧ (¬ (0 ≤ a0.toInt ∧ a0.toInt < (J 13 31).toInt)))) := hp1
  clear hp1
  have hW : WB g A s.heap H locs (J, L, I, P, E, N) (sgM g) := hW
  refine lv_if_eq (tgt := 21) hx hb dX12_account_5 (by decide) (fun c2 => ?_) (fun c2 => ?_)
  · have c2 : r1.toInt = 0 := teq rfl kp0 c2
    refine lv_ldc2 hx hb C.1.2.2.2.1 (hts _ tw_1436) dX12_account_21 ?_
    refine lv_aload_n hx hb dX12_account_24 rfl (lv_at hl 0 rfl) ?_
    refine lv_iconst (v := (-1)) hx hb dX12_account_25 (by decide) ?_
    refine ci_ C hW (runV (x := (g.2.2.1 13)) (As := [.int (-1)]) (rest := [.long (4000000000000000000 : Int64)]) (T := ((J, L, I, P, E, N), sgM g)) C hW (c_X12_refuse l g J L I P E N H.size (-1) (show -6 ≤ (-1 : Int32).toInt ∧ (-1 : Int32).toInt ≤ -1 from by (try simp only [kn1]); omega)) mi_X12_refuse tw_1239 (recv_ (T := ((J, L, I, P, E, N), sgM g)) C hW (mm_ rfl) rfl rfl) ⟨rfl, rfl, Nat.le_of_ble_eq_true rfl, Nat.le_of_ble_eq_true rfl⟩ rfl hl.1 rfl (Nat.le_of_ble_eq_true rfl) dX12_account_26 ⟨Nat.le_of_ble_eq_true rfl, Nat.le_of_ble_eq_true rfl⟩) (fun r3 u3 H locs hp3 hW => ?_)
    have hc3 : ((r3 = (-1))) := hp3
    clear hp3
    have hr3 : r3.toInt = (-1) := by rw [hc3]; exact kn1
    have hW : WB g A s.heap H locs ((hv J [100] [] u3), L, I, P, E, N) (sgM g) := hW
    refine lv_i2l (v := r3.toInt64) hx hb dX12_account_29 rfl ?_
    refine lv_lsub hx hb dX12_account_30 ?_
    refine lv_topl (fun z4 ez4 => ?_)
    have hWr : WB g A s.heap H locs (hv J [100, 146, 150, 151, 152, 154, 161, 162, 163, 164] [(13, 47), (13, 48), (13, 56), (13, 57), (13, 58), (13, 59), (13, 60)] (hv J [100] [] u3), L, I, P, E, N) (sgM g) := by
      rw [← ag_hvE (J := J) (R := [100, 146, 150, 151, 152, 154, 161, 162, 163, 164]) (F := [(13, 47), (13, 48), (13, 56), (13, 57), (13, 58), (13, 59), (13, 60)]) (ag_hv rfl rfl ag_rf)]
      exact hW
    subst hQ9
    exact end_l C hr hlocks (hv J [100] [] u3) hWr (show CAC (hv J [100, 146, 150, 151, 152, 154, 161, 162, 163, 164] [(13, 47), (13, 48), (13, 56), (13, 57), (13, 58), (13, 59), (13, 60)] (hv J [100] [] u3)) from by rw [← ag_hvE (J := J) (R := [100, 146, 150, 151, 152, 154, 161, 162, 163, 164]) (F := [(13, 47), (13, 48), (13, 56), (13, 57), (13, 58), (13, 59), (13, 60)]) (ag_hv rfl rfl ag_rf)]; exact cac_e (J := J) ⟨rfl, rfl, rfl, rfl, rfl, rfl, rfl, rfl, rfl, rfl, rfl, rfl, rfl, rfl, rfl, rfl, rfl, rfl, rfl, rfl⟩ rfl rfl rfl hcac) dX12_account_31
  · have c2 : ¬ r1.toInt = 0 := tne rfl kp0 c2
    refine lv_aload_n hx hb dX12_account_8 rfl (lv_at hl 0 rfl) ?_
    refine lv_iload_n hx hb dX12_account_9 rfl (lv_at hl 2 rfl) ?_
    refine ci_ C hW (runV (x := (g.2.2.1 13)) (As := [.int a1]) (rest := []) (T := ((J, L, I, P, E, N), sgM g)) C hW (c_X12_isPast l g J L I P E N H.size a1 hwm) mi_X12_isPast tw_1326 (recv_ (T := ((J, L, I, P, E, N), sgM g)) C hW (mm_ rfl) rfl rfl) ⟨rfl, rfl, Nat.le_of_ble_eq_true rfl, Nat.le_of_ble_eq_true rfl⟩ rfl hl.1 rfl (Nat.le_of_ble_eq_true rfl) dX12_account_10 ⟨Nat.le_of_ble_eq_true rfl, Nat.le_of_ble_eq_true rfl⟩) (fun r5 u5 H locs hp5 hW => ?_)
    have hc5 : ((r5.toInt = 1 ∧ (0 ≤ a1.toInt ∧ a1.toInt < (J 13 31).toInt)) ∨ (r5.toInt = 0 ∧ (¬ (0 ≤ a1.toInt ∧ a1.toInt < (J 13 31).toInt)))) := hp5
    clear hp5
    have hW : WB g A s.heap H locs (J, L, I, P, E, N) (sgM g) := hW
    refine lv_if_eq (tgt := 21) hx hb dX12_account_13 (by decide) (fun c6 => ?_) (fun c6 => ?_)
    · have c6 : r5.toInt = 0 := teq rfl kp0 c6
      refine lv_ldc2 hx hb C.1.2.2.2.1 (hts _ tw_1436) dX12_account_21 ?_
      refine lv_aload_n hx hb dX12_account_24 rfl (lv_at hl 0 rfl) ?_
      refine lv_iconst (v := (-1)) hx hb dX12_account_25 (by decide) ?_
      refine ci_ C hW (runV (x := (g.2.2.1 13)) (As := [.int (-1)]) (rest := [.long (4000000000000000000 : Int64)]) (T := ((J, L, I, P, E, N), sgM g)) C hW (c_X12_refuse l g J L I P E N H.size (-1) (show -6 ≤ (-1 : Int32).toInt ∧ (-1 : Int32).toInt ≤ -1 from by (try simp only [kn1]); omega)) mi_X12_refuse tw_1239 (recv_ (T := ((J, L, I, P, E, N), sgM g)) C hW (mm_ rfl) rfl rfl) ⟨rfl, rfl, Nat.le_of_ble_eq_true rfl, Nat.le_of_ble_eq_true rfl⟩ rfl hl.1 rfl (Nat.le_of_ble_eq_true rfl) dX12_account_26 ⟨Nat.le_of_ble_eq_true rfl, Nat.le_of_ble_eq_true rfl⟩) (fun r7 u7 H locs hp7 hW => ?_)
      have hc7 : ((r7 = (-1))) := hp7
      clear hp7
      have hr7 : r7.toInt = (-1) := by rw [hc7]; exact kn1
      have hW : WB g A s.heap H locs ((hv J [100] [] u7), L, I, P, E, N) (sgM g) := hW
      refine lv_i2l (v := r7.toInt64) hx hb dX12_account_29 rfl ?_
      refine lv_lsub hx hb dX12_account_30 ?_
      refine lv_topl (fun z8 ez8 => ?_)
      have hWr : WB g A s.heap H locs (hv J [100, 146, 150, 151, 152, 154, 161, 162, 163, 164] [(13, 47), (13, 48), (13, 56), (13, 57), (13, 58), (13, 59), (13, 60)] (hv J [100] [] u7), L, I, P, E, N) (sgM g) := by
        rw [← ag_hvE (J := J) (R := [100, 146, 150, 151, 152, 154, 161, 162, 163, 164]) (F := [(13, 47), (13, 48), (13, 56), (13, 57), (13, 58), (13, 59), (13, 60)]) (ag_hv rfl rfl ag_rf)]
        exact hW
      subst hQ9
      exact end_l C hr hlocks (hv J [100] [] u7) hWr (show CAC (hv J [100, 146, 150, 151, 152, 154, 161, 162, 163, 164] [(13, 47), (13, 48), (13, 56), (13, 57), (13, 58), (13, 59), (13, 60)] (hv J [100] [] u7)) from by rw [← ag_hvE (J := J) (R := [100, 146, 150, 151, 152, 154, 161, 162, 163, 164]) (F := [(13, 47), (13, 48), (13, 56), (13, 57), (13, 58), (13, 59), (13, 60)]) (ag_hv rfl rfl ag_rf)]; exact cac_e (J := J) ⟨rfl, rfl, rfl, rfl, rfl, rfl, rfl, rfl, rfl, rfl, rfl, rfl, rfl, rfl, rfl, rfl, rfl, rfl, rfl, rfl⟩ rfl rfl rfl hcac) dX12_account_31
    · have c6 : ¬ r5.toInt = 0 := tne rfl kp0 c6
      refine lv_iload_n hx hb dX12_account_16 rfl (lv_at hl 2 rfl) ?_
      refine lv_iload_n hx hb dX12_account_17 rfl (lv_at hl 1 rfl) ?_
      refine lv_icmp_ge (tgt := 32) hx hb dX12_account_18 (by decide) (fun c9 => ?_) (fun c9 => ?_)
      · have c9 : a0.toInt ≤ a1.toInt := tle rfl rfl c9
        refine lv_lconst (v := 0) hx hb dX12_account_32 (by decide) ?_
        refine lv_lstore_n (lv' := [(3, .long (0 : Int64)), (0, .ref (g.2.2.1 13)), (1, .int a0), (2, .int a1)]) hx hb dX12_account_33 rfl hl (by decide) rfl (fun ls hl => ?_)
        refine lv_iload_n hx hb dX12_account_34 rfl (lv_at hl 2 rfl) ?_
        refine lv_istore (lv' := [(5, .int a0), (3, .long (0 : Int64)), (0, .ref (g.2.2.1 13)), (1, .int a0), (2, .int a1)]) hx hb dX12_account_35 hl (by decide) rfl (fun ls hl => ?_)
        refine lv_iconst (v := 0) hx hb dX12_account_37 (by decide) ?_
        refine lv_istore (lv' := [(6, .int 0), (5, .int a0), (3, .long (0 : Int64)), (0, .ref (g.2.2.1 13)), (1, .int a0), (2, .int a1)]) hx hb dX12_account_38 hl (by decide) rfl (fun ls hl => ?_)
        have loop40 : ∀ (n : Nat) (m6 : Int32) (Gl10 : Nat → Nat → Int32) (H : Heap) (locs : List Loc) (ls : Array Slot), (2 - m6.toInt).toNat < n → 0 ≤ m6.toInt → WB g A s.heap H locs ((hv J [162] [] Gl10), L, I, P, E, N) (sgM g) → lv_has ls 7 [(6, .int m6), (5, .int a0), (3, .long (0 : Int64)), (0, .ref (g.2.2.1 13)), (1, .int a0), (2, .int a1)] → W p l e (RM (35) 0 0) s m ([.ref (g.2.2.1 13), .int a0, .int a1] : List Value).toArray below meth c H locs 0 0 (MQ below Q9 ([.ref (g.2.2.1 13), .int a0, .int a1] : List Value).toArray s 0 0 A) (F0 m 40 ls []) := by
          intro n
          induction n with
          | zero => intro m6 Gl10 H locs ls hmeas; exact absurd hmeas (Nat.not_lt_zero _)
          | succ n ih =>
            intro m6 Gl10 H locs ls hmeas hi hW hl
            refine lv_iload hx hb dX12_account_40 (lv_at hl 0 rfl) ?_
            refine lv_iconst (v := 2) hx hb dX12_account_42 (by decide) ?_
            refine lv_icmp_ge (tgt := 61) hx hb dX12_account_43 (by decide) (fun c11 => ?_) (fun c11 => ?_)
            · have c11 : 2 ≤ m6.toInt := tle kp2 rfl c11
              refine lv_iload_n hx hb dX12_account_61 rfl (lv_at hl 4 rfl) ?_
              refine lv_istore (lv' := [(6, .int a0), (5, .int a0), (3, .long (0 : Int64)), (0, .ref (g.2.2.1 13)), (1, .int a0), (2, .int a1)]) hx hb dX12_account_62 hl (by decide) rfl (fun ls hl => ?_)
              have loop64 : ∀ (n64 : Nat) (m3 : Int64) (m5 : Int32) (m6 : Int32) (Gl12 : Nat → Nat → Int32) (H : Heap) (locs : List Loc) (ls : Array Slot), (a1.toInt + 1 - m6.toInt).toNat < n64 → 0 ≤ m6.toInt → (m5.toInt ≤ m6.toInt) ∨ (-1 ≤ (Gl12 161 0).toInt ∧ (Gl12 161 0).toInt < (J 13 40).toInt ∧ -1 ≤ (Gl12 161 1).toInt ∧ (Gl12 161 1).toInt < (J 13 40).toInt) → CAC (hv (hv J [162] [] Gl10) [100, 146, 150, 151, 152, 154, 161, 162, 163, 164] [(13, 47), (13, 48), (13, 56), (13, 57), (13, 58), (13, 59), (13, 60)] Gl12) → WB g A s.heap H locs ((hv (hv J [162] [] Gl10) [100, 146, 150, 151, 152, 154, 161, 162, 163, 164] [(13, 47), (13, 48), (13, 56), (13, 57), (13, 58), (13, 59), (13, 60)] Gl12), L, I, P, E, N) (sgM g) → lv_has ls 7 [(6, .int m6), (5, .int m5), (3, .long m3), (0, .ref (g.2.2.1 13)), (1, .int a0), (2, .int a1)] → W p l e (RM (35) 0 0) s m ([.ref (g.2.2.1 13), .int a0, .int a1] : List Value).toArray below meth c H locs 0 0 (MQ below Q9 ([.ref (g.2.2.1 13), .int a0, .int a1] : List Value).toArray s 0 0 A) (F0 m 64 ls []) := by
                intro n64
                induction n64 with
                | zero => intro m3 m5 m6 Gl12 H locs ls hmeas; exact absurd hmeas (Nat.not_lt_zero _)
                | succ n64 ih64 =>
                  intro m3 m5 m6 Gl12 H locs ls hmeas hi hf hcc hW hl
                  refine lv_iload hx hb dX12_account_64 (lv_at hl 0 rfl) ?_
                  refine lv_iload_n hx hb dX12_account_66 rfl (lv_at hl 5 rfl) ?_
                  refine lv_icmp_gt (tgt := 136) hx hb dX12_account_67 (by decide) (fun c13 => ?_) (fun c13 => ?_)
                  · have c13 : a1.toInt < m6.toInt := tlt rfl rfl c13
                    refine lv_lload_n hx hb dX12_account_136 rfl (lv_at hl 2 rfl) ?_
                    have hWr : WB g A s.heap H locs (hv J [100, 146, 150, 151, 152, 154, 161, 162, 163, 164] [(13, 47), (13, 48), (13, 56), (13, 57), (13, 58), (13, 59), (13, 60)] (hv (hv J [162] [] Gl10) [100, 146, 150, 151, 152, 154, 161, 162, 163, 164] [(13, 47), (13, 48), (13, 56), (13, 57), (13, 58), (13, 59), (13, 60)] Gl12), L, I, P, E, N) (sgM g) := by
                      rw [← ag_hvE (J := J) (R := [100, 146, 150, 151, 152, 154, 161, 162, 163, 164]) (F := [(13, 47), (13, 48), (13, 56), (13, 57), (13, 58), (13, 59), (13, 60)]) (ag_hv rfl rfl (ag_hv rfl rfl ag_rf))]
                      exact hW
                    subst hQ9
                    exact end_l C hr hlocks (hv (hv J [162] [] Gl10) [100, 146, 150, 151, 152, 154, 161, 162, 163, 164] [(13, 47), (13, 48), (13, 56), (13, 57), (13, 58), (13, 59), (13, 60)] Gl12) hWr (show CAC (hv J [100, 146, 150, 151, 152, 154, 161, 162, 163, 164] [(13, 47), (13, 48), (13, 56), (13, 57), (13, 58), (13, 59), (13, 60)] (hv (hv J [162] [] Gl10) [100, 146, 150, 151, 152, 154, 161, 162, 163, 164] [(13, 47), (13, 48), (13, 56), (13, 57), (13, 58), (13, 59), (13, 60)] Gl12)) from by rw [← ag_hvE (J := J) (R := [100, 146, 150, 151, 152, 154, 161, 162, 163, 164]) (F := [(13, 47), (13, 48), (13, 56), (13, 57), (13, 58), (13, 59), (13, 60)]) (ag_hv rfl rfl (ag_hv rfl rfl ag_rf))]; exact cac_e (J := (hv (hv J [162] [] Gl10) [100, 146, 150, 151, 152, 154, 161, 162, 163, 164] [(13, 47), (13, 48), (13, 56), (13, 57), (13, 58), (13, 59), (13, 60)] Gl12)) ⟨rfl, rfl, rfl, rfl, rfl, rfl, rfl, rfl, rfl, rfl, rfl, rfl, rfl, rfl, rfl, rfl, rfl, rfl, rfl, rfl⟩ rfl rfl rfl hcc) dX12_account_137
                  · have c13 : m6.toInt ≤ a1.toInt := tnlt rfl rfl c13
                    refine lv_iload hx hb dX12_account_70 (lv_at hl 0 rfl) ?_
                    refine lv_iload hx hb dX12_account_72 (lv_at hl 1 rfl) ?_
                    refine lv_icmp_lt (tgt := 85) hx hb dX12_account_74 (by decide) (fun c14 => ?_) (fun c14 => ?_)
                    · have c14 : m6.toInt < m5.toInt := tlt rfl rfl c14
                      refine lv_aload_n hx hb dX12_account_85 rfl (lv_at hl 3 rfl) ?_
                      refine rg_13_61 C hW (mm_ rfl) tw_1084 dX12_account_86 ?_
                      refine lv_iconst (v := 0) hx hb dX12_account_89 (by decide) ?_
                      have hin : vp_in 0 2 := tin kp0 (by omega)
                      refine ra_161 C hW (mm_ rfl) hin dX12_account_90 ?_
                      refine lv_topi (fun x15 (e15 : x15 = Gl12 161 0) => ?_)
                      have t15 : x15.toInt = (Gl12 161 0).toInt := by rw [e15]
                      refine lv_if_ge (tgt := 106) hx hb dX12_account_91 (by decide) (fun c16 => ?_) (fun c16 => ?_)
                      · have c16 : 0 ≤ x15.toInt := tle kp0 rfl c16
                        refine lv_aload_n hx hb dX12_account_106 rfl (lv_at hl 3 rfl) ?_
                        refine lv_iload hx hb dX12_account_107 (lv_at hl 0 rfl) ?_
                        refine cv_ C hW (runV (x := (g.2.2.1 13)) (As := [.int m6]) (rest := []) (T := (((hv (hv J [162] [] Gl10) [100, 146, 150, 151, 152, 154, 161, 162, 163, 164] [(13, 47), (13, 48), (13, 56), (13, 57), (13, 58), (13, 59), (13, 60)] Gl12), L, I, P, E, N), sgM g)) C hW (c_X12_puts_e l g (hv (hv J [162] [] Gl10) [100, 146, 150, 151, 152, 154, 161, 162, 163, 164] [(13, 47), (13, 48), (13, 56), (13, 57), (13, 58), (13, 59), (13, 60)] Gl12) L I P E N H.size m6 hwm (show 0 ≤ m6.toInt ∧ m6.toInt < 10000 from by omega) (show m6.toInt < (J 13 31).toInt from by omega) (show CAC (hv (hv J [162] [] Gl10) [100, 146, 150, 151, 152, 154, 161, 162, 163, 164] [(13, 47), (13, 48), (13, 56), (13, 57), (13, 58), (13, 59), (13, 60)] Gl12) from cac_e (J := (hv (hv J [162] [] Gl10) [100, 146, 150, 151, 152, 154, 161, 162, 163, 164] [(13, 47), (13, 48), (13, 56), (13, 57), (13, 58), (13, 59), (13, 60)] Gl12)) ⟨rfl, rfl, rfl, rfl, rfl, rfl, rfl, rfl, rfl, rfl, rfl, rfl, rfl, rfl, rfl, rfl, rfl, rfl, rfl, rfl⟩ rfl rfl rfl hcc)) mi_X12_puts tw_1428 (recv_ (T := (((hv (hv J [162] [] Gl10) [100, 146, 150, 151, 152, 154, 161, 162, 163, 164] [(13, 47), (13, 48), (13, 56), (13, 57), (13, 58), (13, 59), (13, 60)] Gl12), L, I, P, E, N), sgM g)) C hW (mm_ rfl) rfl rfl) ⟨rfl, rfl, Nat.le_of_ble_eq_true rfl, Nat.le_of_ble_eq_true rfl⟩ rfl hl.1 rfl (Nat.le_of_ble_eq_true rfl) dX12_account_109 ⟨Nat.le_of_ble_eq_true rfl, Nat.le_of_ble_eq_true rfl⟩) (fun u17 H locs hp17 hW => ?_)
                        obtain ⟨hf17_0, hf17_1, hf17_2, hf17_3⟩ : (((J 116 m6.toNatClampNeg).toInt = 6 → (u17 13 47).toInt = 0 ∧ (u17 13 48).toInt = 0)) ∧ ((¬ (J 116 m6.toNatClampNeg).toInt = 6 → CAV (hv (hv J [162] [] Gl10) [100, 146, 150, 151, 152, 154, 161, 162, 163, 164] [(13, 47), (13, 48), (13, 56), (13, 57), (13, 58), (13, 59), (13, 60)] Gl12) m6.toNatClampNeg (u17 13 47).toInt (u17 13 48).toInt)) ∧ (∀ c, isl c → LTR (u17 154) c = SCL (J 116 m6.toNatClampNeg) (hrw m6.toInt) (J 118 m6.toNatClampNeg) (u17 13 47) (u17 13 48) (J 120 m6.toNatClampNeg) (J 13 31 - m6) (J 13 35) c) ∧ (CAC (hv (hv (hv J [162] [] Gl10) [100, 146, 150, 151, 152, 154, 161, 162, 163, 164] [(13, 47), (13, 48), (13, 56), (13, 57), (13, 58), (13, 59), (13, 60)] Gl12) [146, 150, 151, 152, 154] [(13, 47), (13, 48)] u17)) := hp17
                        have hW : WB g A s.heap H locs ((hv (hv (hv J [162] [] Gl10) [100, 146, 150, 151, 152, 154, 161, 162, 163, 164] [(13, 47), (13, 48), (13, 56), (13, 57), (13, 58), (13, 59), (13, 60)] Gl12) [146, 150, 151, 152, 154] [(13, 47), (13, 48)] u17), L, I, P, E, N) (sgM g) := hW
                        have hPC := hf17_3
                        refine lv_lload_n hx hb dX12_account_112 rfl (lv_at hl 2 rfl) ?_
                        refine lv_aload_n hx hb dX12_account_113 rfl (lv_at hl 3 rfl) ?_
                        refine lv_iconst (v := 1) hx hb dX12_account_114 (by decide) ?_
                        refine ci_ C hW (runV (x := (g.2.2.1 13)) (As := [.int 1]) (rest := [.long m3]) (T := (((hv (hv (hv J [162] [] Gl10) [100, 146, 150, 151, 152, 154, 161, 162, 163, 164] [(13, 47), (13, 48), (13, 56), (13, 57), (13, 58), (13, 59), (13, 60)] Gl12) [146, 150, 151, 152, 154] [(13, 47), (13, 48)] u17), L, I, P, E, N), sgM g)) C hW (c_X12_asBefore l g (hv (hv (hv J [162] [] Gl10) [100, 146, 150, 151, 152, 154, 161, 162, 163, 164] [(13, 47), (13, 48), (13, 56), (13, 57), (13, 58), (13, 59), (13, 60)] Gl12) [146, 150, 151, 152, 154] [(13, 47), (13, 48)] u17) L I P E N H.size 1 hwm (show 0 ≤ (1 : Int32).toInt ∧ (1 : Int32).toInt ≤ 1 from by (try simp only [kp1]); omega) (show -1 ≤ (Gl12 161 1).toInt ∧ (Gl12 161 1).toInt < (J 13 40).toInt from by (try simp only [kp1]); omega)) mi_X12_asBefore tw_1441 (recv_ (T := (((hv (hv (hv J [162] [] Gl10) [100, 146, 150, 151, 152, 154, 161, 162, 163, 164] [(13, 47), (13, 48), (13, 56), (13, 57), (13, 58), (13, 59), (13, 60)] Gl12) [146, 150, 151, 152, 154] [(13, 47), (13, 48)] u17), L, I, P, E, N), sgM g)) C hW (mm_ rfl) rfl rfl) ⟨rfl, rfl, Nat.le_of_ble_eq_true rfl, Nat.le_of_ble_eq_true rfl⟩ rfl hl.1 rfl (Nat.le_of_ble_eq_true rfl) dX12_account_115 ⟨Nat.le_of_ble_eq_true rfl, Nat.le_of_ble_eq_true rfl⟩) (fun r18 u18 H locs hp18 hW => ?_)
                        have hW : WB g A s.heap H locs ((hv (hv (hv (hv J [162] [] Gl10) [100, 146, 150, 151, 152, 154, 161, 162, 163, 164] [(13, 47), (13, 48), (13, 56), (13, 57), (13, 58), (13, 59), (13, 60)] Gl12) [146, 150, 151, 152, 154] [(13, 47), (13, 48)] u17) [162, 163, 164] [(13, 56), (13, 57), (13, 58), (13, 59), (13, 60)] u18), L, I, P, E, N) (sgM g) := hW
                        refine lv_i2l (v := r18.toInt64) hx hb dX12_account_118 rfl ?_
                        refine lv_ladd hx hb dX12_account_119 ?_
                        refine lv_topl (fun z19 ez19 => ?_)
                        refine lv_lstore_n (lv' := [(3, .long z19), (6, .int m6), (5, .int m5), (0, .ref (g.2.2.1 13)), (1, .int a0), (2, .int a1)]) hx hb dX12_account_120 rfl hl (by decide) rfl (fun ls hl => ?_)
                        refine lv_lload_n hx hb dX12_account_121 rfl (lv_at hl 0 rfl) ?_
                        refine lv_aload_n hx hb dX12_account_122 rfl (lv_at hl 3 rfl) ?_
                        refine lv_iconst (v := 0) hx hb dX12_account_123 (by decide) ?_
                        refine ci_ C hW (runV (x := (g.2.2.1 13)) (As := [.int 0]) (rest := [.long z19]) (T := (((hv (hv (hv (hv J [162] [] Gl10) [100, 146, 150, 151, 152, 154, 161, 162, 163, 164] [(13, 47), (13, 48), (13, 56), (13, 57), (13, 58), (13, 59), (13, 60)] Gl12) [146, 150, 151, 152, 154] [(13, 47), (13, 48)] u17) [162, 163, 164] [(13, 56), (13, 57), (13, 58), (13, 59), (13, 60)] u18), L, I, P, E, N), sgM g)) C hW (c_X12_asBefore l g (hv (hv (hv (hv J [162] [] Gl10) [100, 146, 150, 151, 152, 154, 161, 162, 163, 164] [(13, 47), (13, 48), (13, 56), (13, 57), (13, 58), (13, 59), (13, 60)] Gl12) [146, 150, 151, 152, 154] [(13, 47), (13, 48)] u17) [162, 163, 164] [(13, 56), (13, 57), (13, 58), (13, 59), (13, 60)] u18) L I P E N H.size 0 hwm (show 0 ≤ (0 : Int32).toInt ∧ (0 : Int32).toInt ≤ 1 from by (try simp only [kp0]); omega) (show -1 ≤ (Gl12 161 0).toInt ∧ (Gl12 161 0).toInt < (J 13 40).toInt from by (try simp only [kp0]); omega)) mi_X12_asBefore tw_1441 (recv_ (T := (((hv (hv (hv (hv J [162] [] Gl10) [100, 146, 150, 151, 152, 154, 161, 162, 163, 164] [(13, 47), (13, 48), (13, 56), (13, 57), (13, 58), (13, 59), (13, 60)] Gl12) [146, 150, 151, 152, 154] [(13, 47), (13, 48)] u17) [162, 163, 164] [(13, 56), (13, 57), (13, 58), (13, 59), (13, 60)] u18), L, I, P, E, N), sgM g)) C hW (mm_ rfl) rfl rfl) ⟨rfl, rfl, Nat.le_of_ble_eq_true rfl, Nat.le_of_ble_eq_true rfl⟩ rfl hl.1 rfl (Nat.le_of_ble_eq_true rfl) dX12_account_124 ⟨Nat.le_of_ble_eq_true rfl, Nat.le_of_ble_eq_true rfl⟩) (fun r20 u20 H locs hp20 hW => ?_)
                        have hW : WB g A s.heap H locs ((hv (hv (hv (hv (hv J [162] [] Gl10) [100, 146, 150, 151, 152, 154, 161, 162, 163, 164] [(13, 47), (13, 48), (13, 56), (13, 57), (13, 58), (13, 59), (13, 60)] Gl12) [146, 150, 151, 152, 154] [(13, 47), (13, 48)] u17) [162, 163, 164] [(13, 56), (13, 57), (13, 58), (13, 59), (13, 60)] u18) [162, 163, 164] [(13, 56), (13, 57), (13, 58), (13, 59), (13, 60)] u20), L, I, P, E, N) (sgM g) := hW
                        refine lv_i2l (v := r20.toInt64) hx hb dX12_account_127 rfl ?_
                        refine lv_lsub hx hb dX12_account_128 ?_
                        refine lv_topl (fun z21 ez21 => ?_)
                        refine lv_lstore_n (lv' := [(3, .long z21), (6, .int m6), (5, .int m5), (0, .ref (g.2.2.1 13)), (1, .int a0), (2, .int a1)]) hx hb dX12_account_129 rfl hl (by decide) rfl (fun ls hl => ?_)
                        obtain ⟨x22, e22⟩ : ∃ y : Int32, y = m6 + 1 := ⟨_, rfl⟩
                        refine lv_iinc (v := x22) (lv' := [(6, .int x22), (3, .long z21), (5, .int m5), (0, .ref (g.2.2.1 13)), (1, .int a0), (2, .int a1)]) hx hb dX12_account_130 hl (k := 1) rfl (by rw [e22]; rfl) (by decide) rfl (fun ls hl => ?_)
                        try have t22 : x22.toInt = m6.toInt + 1 := tadd e22 rfl kp1 (by omega)
                        refine lv_goto (tgt := 64) hx hb dX12_account_133 (by decide) ?_
                        have hWl : WB g A s.heap H locs ((hv (hv J [162] [] Gl10) [100, 146, 150, 151, 152, 154, 161, 162, 163, 164] [(13, 47), (13, 48), (13, 56), (13, 57), (13, 58), (13, 59), (13, 60)] (hv (hv (hv (hv (hv J [162] [] Gl10) [100, 146, 150, 151, 152, 154, 161, 162, 163, 164] [(13, 47), (13, 48), (13, 56), (13, 57), (13, 58), (13, 59), (13, 60)] Gl12) [146, 150, 151, 152, 154] [(13, 47), (13, 48)] u17) [162, 163, 164] [(13, 56), (13, 57), (13, 58), (13, 59), (13, 60)] u18) [162, 163, 164] [(13, 56), (13, 57), (13, 58), (13, 59), (13, 60)] u20)), L, I, P, E, N) (sgM g) := by
                          rw [← ag_hvE (J := (hv J [162] [] Gl10)) (R := [100, 146, 150, 151, 152, 154, 161, 162, 163, 164]) (F := [(13, 47), (13, 48), (13, 56), (13, 57), (13, 58), (13, 59), (13, 60)]) (ag_hv rfl rfl (ag_hv rfl rfl (ag_hv rfl rfl (ag_hv rfl rfl ag_rf))))]
                          exact hW
                        refine ih64 z21 m5 x22 (hv (hv (hv (hv (hv J [162] [] Gl10) [100, 146, 150, 151, 152, 154, 161, 162, 163, 164] [(13, 47), (13, 48), (13, 56), (13, 57), (13, 58), (13, 59), (13, 60)] Gl12) [146, 150, 151, 152, 154] [(13, 47), (13, 48)] u17) [162, 163, 164] [(13, 56), (13, 57), (13, 58), (13, 59), (13, 60)] u18) [162, 163, 164] [(13, 56), (13, 57), (13, 58), (13, 59), (13, 60)] u20) H locs ls ?_ ?_ ?_ ?_ hWl (lv_sub hl [0, 2, 1, 3, 4, 5] rfl)
                        · show (a1.toInt + 1 - x22.toInt).toNat < n64
                          omega
                        · show 0 ≤ x22.toInt
                          first | omega | exact hi | assumption
                        · show (m5.toInt ≤ x22.toInt) ∨ (-1 ≤ (Gl12 161 0).toInt ∧ (Gl12 161 0).toInt < (J 13 40).toInt ∧ -1 ≤ (Gl12 161 1).toInt ∧ (Gl12 161 1).toInt < (J 13 40).toInt)
                          first | omega | exact hf | assumption
                        · rw [← ag_hvE (J := (hv J [162] [] Gl10)) (R := [100, 146, 150, 151, 152, 154, 161, 162, 163, 164]) (F := [(13, 47), (13, 48), (13, 56), (13, 57), (13, 58), (13, 59), (13, 60)]) (ag_hv rfl rfl (ag_hv rfl rfl (ag_hv rfl rfl (ag_hv rfl rfl ag_rf))))]; exact cac_e (J := (hv (hv (hv J [162] [] Gl10) [100, 146, 150, 151, 152, 154, 161, 162, 163, 164] [(13, 47), (13, 48), (13, 56), (13, 57), (13, 58), (13, 59), (13, 60)] Gl12) [146, 150, 151, 152, 154] [(13, 47), (13, 48)] u17)) ⟨rfl, rfl, rfl, rfl, rfl, rfl, rfl, rfl, rfl, rfl, rfl, rfl, rfl, rfl, rfl, rfl, rfl, rfl, rfl, rfl⟩ rfl rfl rfl hPC
                      · have c16 : x15.toInt < 0 := tnle kp0 rfl c16
                        refine lv_aload_n hx hb dX12_account_94 rfl (lv_at hl 3 rfl) ?_
                        refine rg_13_61 C hW (mm_ rfl) tw_1084 dX12_account_95 ?_
                        refine lv_iconst (v := 1) hx hb dX12_account_98 (by decide) ?_
                        have hin : vp_in 1 2 := tin kp1 (by omega)
                        refine ra_161 C hW (mm_ rfl) hin dX12_account_99 ?_
                        refine lv_topi (fun x23 (e23 : x23 = Gl12 161 1) => ?_)
                        have t23 : x23.toInt = (Gl12 161 1).toInt := by rw [e23]
                        refine lv_if_ge (tgt := 106) hx hb dX12_account_100 (by decide) (fun c24 => ?_) (fun c24 => ?_)
                        · have c24 : 0 ≤ x23.toInt := tle kp0 rfl c24
                          refine lv_aload_n hx hb dX12_account_106 rfl (lv_at hl 3 rfl) ?_
                          refine lv_iload hx hb dX12_account_107 (lv_at hl 0 rfl) ?_
                          refine cv_ C hW (runV (x := (g.2.2.1 13)) (As := [.int m6]) (rest := []) (T := (((hv (hv J [162] [] Gl10) [100, 146, 150, 151, 152, 154, 161, 162, 163, 164] [(13, 47), (13, 48), (13, 56), (13, 57), (13, 58), (13, 59), (13, 60)] Gl12), L, I, P, E, N), sgM g)) C hW (c_X12_puts_e l g (hv (hv J [162] [] Gl10) [100, 146, 150, 151, 152, 154, 161, 162, 163, 164] [(13, 47), (13, 48), (13, 56), (13, 57), (13, 58), (13, 59), (13, 60)] Gl12) L I P E N H.size m6 hwm (show 0 ≤ m6.toInt ∧ m6.toInt < 10000 from by omega) (show m6.toInt < (J 13 31).toInt from by omega) (show CAC (hv (hv J [162] [] Gl10) [100, 146, 150, 151, 152, 154, 161, 162, 163, 164] [(13, 47), (13, 48), (13, 56), (13, 57), (13, 58), (13, 59), (13, 60)] Gl12) from cac_e (J := (hv (hv J [162] [] Gl10) [100, 146, 150, 151, 152, 154, 161, 162, 163, 164] [(13, 47), (13, 48), (13, 56), (13, 57), (13, 58), (13, 59), (13, 60)] Gl12)) ⟨rfl, rfl, rfl, rfl, rfl, rfl, rfl, rfl, rfl, rfl, rfl, rfl, rfl, rfl, rfl, rfl, rfl, rfl, rfl, rfl⟩ rfl rfl rfl hcc)) mi_X12_puts tw_1428 (recv_ (T := (((hv (hv J [162] [] Gl10) [100, 146, 150, 151, 152, 154, 161, 162, 163, 164] [(13, 47), (13, 48), (13, 56), (13, 57), (13, 58), (13, 59), (13, 60)] Gl12), L, I, P, E, N), sgM g)) C hW (mm_ rfl) rfl rfl) ⟨rfl, rfl, Nat.le_of_ble_eq_true rfl, Nat.le_of_ble_eq_true rfl⟩ rfl hl.1 rfl (Nat.le_of_ble_eq_true rfl) dX12_account_109 ⟨Nat.le_of_ble_eq_true rfl, Nat.le_of_ble_eq_true rfl⟩) (fun u25 H locs hp25 hW => ?_)
                          obtain ⟨hf25_0, hf25_1, hf25_2, hf25_3⟩ : (((J 116 m6.toNatClampNeg).toInt = 6 → (u25 13 47).toInt = 0 ∧ (u25 13 48).toInt = 0)) ∧ ((¬ (J 116 m6.toNatClampNeg).toInt = 6 → CAV (hv (hv J [162] [] Gl10) [100, 146, 150, 151, 152, 154, 161, 162, 163, 164] [(13, 47), (13, 48), (13, 56), (13, 57), (13, 58), (13, 59), (13, 60)] Gl12) m6.toNatClampNeg (u25 13 47).toInt (u25 13 48).toInt)) ∧ (∀ c, isl c → LTR (u25 154) c = SCL (J 116 m6.toNatClampNeg) (hrw m6.toInt) (J 118 m6.toNatClampNeg) (u25 13 47) (u25 13 48) (J 120 m6.toNatClampNeg) (J 13 31 - m6) (J 13 35) c) ∧ (CAC (hv (hv (hv J [162] [] Gl10) [100, 146, 150, 151, 152, 154, 161, 162, 163, 164] [(13, 47), (13, 48), (13, 56), (13, 57), (13, 58), (13, 59), (13, 60)] Gl12) [146, 150, 151, 152, 154] [(13, 47), (13, 48)] u25)) := hp25
                          have hW : WB g A s.heap H locs ((hv (hv (hv J [162] [] Gl10) [100, 146, 150, 151, 152, 154, 161, 162, 163, 164] [(13, 47), (13, 48), (13, 56), (13, 57), (13, 58), (13, 59), (13, 60)] Gl12) [146, 150, 151, 152, 154] [(13, 47), (13, 48)] u25), L, I, P, E, N) (sgM g) := hW
                          have hPC := hf25_3
                          refine lv_lload_n hx hb dX12_account_112 rfl (lv_at hl 2 rfl) ?_
                          refine lv_aload_n hx hb dX12_account_113 rfl (lv_at hl 3 rfl) ?_
                          refine lv_iconst (v := 1) hx hb dX12_account_114 (by decide) ?_
                          refine ci_ C hW (runV (x := (g.2.2.1 13)) (As := [.int 1]) (rest := [.long m3]) (T := (((hv (hv (hv J [162] [] Gl10) [100, 146, 150, 151, 152, 154, 161, 162, 163, 164] [(13, 47), (13, 48), (13, 56), (13, 57), (13, 58), (13, 59), (13, 60)] Gl12) [146, 150, 151, 152, 154] [(13, 47), (13, 48)] u25), L, I, P, E, N), sgM g)) C hW (c_X12_asBefore l g (hv (hv (hv J [162] [] Gl10) [100, 146, 150, 151, 152, 154, 161, 162, 163, 164] [(13, 47), (13, 48), (13, 56), (13, 57), (13, 58), (13, 59), (13, 60)] Gl12) [146, 150, 151, 152, 154] [(13, 47), (13, 48)] u25) L I P E N H.size 1 hwm (show 0 ≤ (1 : Int32).toInt ∧ (1 : Int32).toInt ≤ 1 from by (try simp only [kp1]); omega) (show -1 ≤ (Gl12 161 1).toInt ∧ (Gl12 161 1).toInt < (J 13 40).toInt from by (try simp only [kp1]); omega)) mi_X12_asBefore tw_1441 (recv_ (T := (((hv (hv (hv J [162] [] Gl10) [100, 146, 150, 151, 152, 154, 161, 162, 163, 164] [(13, 47), (13, 48), (13, 56), (13, 57), (13, 58), (13, 59), (13, 60)] Gl12) [146, 150, 151, 152, 154] [(13, 47), (13, 48)] u25), L, I, P, E, N), sgM g)) C hW (mm_ rfl) rfl rfl) ⟨rfl, rfl, Nat.le_of_ble_eq_true rfl, Nat.le_of_ble_eq_true rfl⟩ rfl hl.1 rfl (Nat.le_of_ble_eq_true rfl) dX12_account_115 ⟨Nat.le_of_ble_eq_true rfl, Nat.le_of_ble_eq_true rfl⟩) (fun r26 u26 H locs hp26 hW => ?_)
                          have hW : WB g A s.heap H locs ((hv (hv (hv (hv J [162] [] Gl10) [100, 146, 150, 151, 152, 154, 161, 162, 163, 164] [(13, 47), (13, 48), (13, 56), (13, 57), (13, 58), (13, 59), (13, 60)] Gl12) [146, 150, 151, 152, 154] [(13, 47), (13, 48)] u25) [162, 163, 164] [(13, 56), (13, 57), (13, 58), (13, 59), (13, 60)] u26), L, I, P, E, N) (sgM g) := hW
                          refine lv_i2l (v := r26.toInt64) hx hb dX12_account_118 rfl ?_
                          refine lv_ladd hx hb dX12_account_119 ?_
                          refine lv_topl (fun z27 ez27 => ?_)
                          refine lv_lstore_n (lv' := [(3, .long z27), (6, .int m6), (5, .int m5), (0, .ref (g.2.2.1 13)), (1, .int a0), (2, .int a1)]) hx hb dX12_account_120 rfl hl (by decide) rfl (fun ls hl => ?_)
                          refine lv_lload_n hx hb dX12_account_121 rfl (lv_at hl 0 rfl) ?_
                          refine lv_aload_n hx hb dX12_account_122 rfl (lv_at hl 3 rfl) ?_
                          refine lv_iconst (v := 0) hx hb dX12_account_123 (by decide) ?_
                          refine ci_ C hW (runV (x := (g.2.2.1 13)) (As := [.int 0]) (rest := [.long z27]) (T := (((hv (hv (hv (hv J [162] [] Gl10) [100, 146, 150, 151, 152, 154, 161, 162, 163, 164] [(13, 47), (13, 48), (13, 56), (13, 57), (13, 58), (13, 59), (13, 60)] Gl12) [146, 150, 151, 152, 154] [(13, 47), (13, 48)] u25) [162, 163, 164] [(13, 56), (13, 57), (13, 58), (13, 59), (13, 60)] u26), L, I, P, E, N), sgM g)) C hW (c_X12_asBefore l g (hv (hv (hv (hv J [162] [] Gl10) [100, 146, 150, 151, 152, 154, 161, 162, 163, 164] [(13, 47), (13, 48), (13, 56), (13, 57), (13, 58), (13, 59), (13, 60)] Gl12) [146, 150, 151, 152, 154] [(13, 47), (13, 48)] u25) [162, 163, 164] [(13, 56), (13, 57), (13, 58), (13, 59), (13, 60)] u26) L I P E N H.size 0 hwm (show 0 ≤ (0 : Int32).toInt ∧ (0 : Int32).toInt ≤ 1 from by (try simp only [kp0]); omega) (show -1 ≤ (Gl12 161 0).toInt ∧ (Gl12 161 0).toInt < (J 13 40).toInt from by (try simp only [kp0]); omega)) mi_X12_asBefore tw_1441 (recv_ (T := (((hv (hv (hv (hv J [162] [] Gl10) [100, 146, 150, 151, 152, 154, 161, 162, 163, 164] [(13, 47), (13, 48), (13, 56), (13, 57), (13, 58), (13, 59), (13, 60)] Gl12) [146, 150, 151, 152, 154] [(13, 47), (13, 48)] u25) [162, 163, 164] [(13, 56), (13, 57), (13, 58), (13, 59), (13, 60)] u26), L, I, P, E, N), sgM g)) C hW (mm_ rfl) rfl rfl) ⟨rfl, rfl, Nat.le_of_ble_eq_true rfl, Nat.le_of_ble_eq_true rfl⟩ rfl hl.1 rfl (Nat.le_of_ble_eq_true rfl) dX12_account_124 ⟨Nat.le_of_ble_eq_true rfl, Nat.le_of_ble_eq_true rfl⟩) (fun r28 u28 H locs hp28 hW => ?_)
                          have hW : WB g A s.heap H locs ((hv (hv (hv (hv (hv J [162] [] Gl10) [100, 146, 150, 151, 152, 154, 161, 162, 163, 164] [(13, 47), (13, 48), (13, 56), (13, 57), (13, 58), (13, 59), (13, 60)] Gl12) [146, 150, 151, 152, 154] [(13, 47), (13, 48)] u25) [162, 163, 164] [(13, 56), (13, 57), (13, 58), (13, 59), (13, 60)] u26) [162, 163, 164] [(13, 56), (13, 57), (13, 58), (13, 59), (13, 60)] u28), L, I, P, E, N) (sgM g) := hW
                          refine lv_i2l (v := r28.toInt64) hx hb dX12_account_127 rfl ?_
                          refine lv_lsub hx hb dX12_account_128 ?_
                          refine lv_topl (fun z29 ez29 => ?_)
                          refine lv_lstore_n (lv' := [(3, .long z29), (6, .int m6), (5, .int m5), (0, .ref (g.2.2.1 13)), (1, .int a0), (2, .int a1)]) hx hb dX12_account_129 rfl hl (by decide) rfl (fun ls hl => ?_)
                          obtain ⟨x30, e30⟩ : ∃ y : Int32, y = m6 + 1 := ⟨_, rfl⟩
                          refine lv_iinc (v := x30) (lv' := [(6, .int x30), (3, .long z29), (5, .int m5), (0, .ref (g.2.2.1 13)), (1, .int a0), (2, .int a1)]) hx hb dX12_account_130 hl (k := 1) rfl (by rw [e30]; rfl) (by decide) rfl (fun ls hl => ?_)
                          try have t30 : x30.toInt = m6.toInt + 1 := tadd e30 rfl kp1 (by omega)
                          refine lv_goto (tgt := 64) hx hb dX12_account_133 (by decide) ?_
                          have hWl : WB g A s.heap H locs ((hv (hv J [162] [] Gl10) [100, 146, 150, 151, 152, 154, 161, 162, 163, 164] [(13, 47), (13, 48), (13, 56), (13, 57), (13, 58), (13, 59), (13, 60)] (hv (hv (hv (hv (hv J [162] [] Gl10) [100, 146, 150, 151, 152, 154, 161, 162, 163, 164] [(13, 47), (13, 48), (13, 56), (13, 57), (13, 58), (13, 59), (13, 60)] Gl12) [146, 150, 151, 152, 154] [(13, 47), (13, 48)] u25) [162, 163, 164] [(13, 56), (13, 57), (13, 58), (13, 59), (13, 60)] u26) [162, 163, 164] [(13, 56), (13, 57), (13, 58), (13, 59), (13, 60)] u28)), L, I, P, E, N) (sgM g) := by
                            rw [← ag_hvE (J := (hv J [162] [] Gl10)) (R := [100, 146, 150, 151, 152, 154, 161, 162, 163, 164]) (F := [(13, 47), (13, 48), (13, 56), (13, 57), (13, 58), (13, 59), (13, 60)]) (ag_hv rfl rfl (ag_hv rfl rfl (ag_hv rfl rfl (ag_hv rfl rfl ag_rf))))]
                            exact hW
                          refine ih64 z29 m5 x30 (hv (hv (hv (hv (hv J [162] [] Gl10) [100, 146, 150, 151, 152, 154, 161, 162, 163, 164] [(13, 47), (13, 48), (13, 56), (13, 57), (13, 58), (13, 59), (13, 60)] Gl12) [146, 150, 151, 152, 154] [(13, 47), (13, 48)] u25) [162, 163, 164] [(13, 56), (13, 57), (13, 58), (13, 59), (13, 60)] u26) [162, 163, 164] [(13, 56), (13, 57), (13, 58), (13, 59), (13, 60)] u28) H locs ls ?_ ?_ ?_ ?_ hWl (lv_sub hl [0, 2, 1, 3, 4, 5] rfl)
                          · show (a1.toInt + 1 - x30.toInt).toNat < n64
                            omega
                          · show 0 ≤ x30.toInt
                            first | omega | exact hi | assumption
                          · show (m5.toInt ≤ x30.toInt) ∨ (-1 ≤ (Gl12 161 0).toInt ∧ (Gl12 161 0).toInt < (J 13 40).toInt ∧ -1 ≤ (Gl12 161 1).toInt ∧ (Gl12 161 1).toInt < (J 13 40).toInt)
                            first | omega | exact hf | assumption
                          · rw [← ag_hvE (J := (hv J [162] [] Gl10)) (R := [100, 146, 150, 151, 152, 154, 161, 162, 163, 164]) (F := [(13, 47), (13, 48), (13, 56), (13, 57), (13, 58), (13, 59), (13, 60)]) (ag_hv rfl rfl (ag_hv rfl rfl (ag_hv rfl rfl (ag_hv rfl rfl ag_rf))))]; exact cac_e (J := (hv (hv (hv J [162] [] Gl10) [100, 146, 150, 151, 152, 154, 161, 162, 163, 164] [(13, 47), (13, 48), (13, 56), (13, 57), (13, 58), (13, 59), (13, 60)] Gl12) [146, 150, 151, 152, 154] [(13, 47), (13, 48)] u25)) ⟨rfl, rfl, rfl, rfl, rfl, rfl, rfl, rfl, rfl, rfl, rfl, rfl, rfl, rfl, rfl, rfl, rfl, rfl, rfl, rfl⟩ rfl rfl rfl hPC
                        · have c24 : x23.toInt < 0 := tnle kp0 rfl c24
                          refine lv_goto (tgt := 130) hx hb dX12_account_103 (by decide) ?_
                          obtain ⟨x31, e31⟩ : ∃ y : Int32, y = m6 + 1 := ⟨_, rfl⟩
                          refine lv_iinc (v := x31) (lv' := [(6, .int x31), (5, .int m5), (3, .long m3), (0, .ref (g.2.2.1 13)), (1, .int a0), (2, .int a1)]) hx hb dX12_account_130 hl (k := 0) rfl (by rw [e31]; rfl) (by decide) rfl (fun ls hl => ?_)
                          try have t31 : x31.toInt = m6.toInt + 1 := tadd e31 rfl kp1 (by omega)
                          refine lv_goto (tgt := 64) hx hb dX12_account_133 (by decide) ?_
                          have hWl : WB g A s.heap H locs ((hv (hv J [162] [] Gl10) [100, 146, 150, 151, 152, 154, 161, 162, 163, 164] [(13, 47), (13, 48), (13, 56), (13, 57), (13, 58), (13, 59), (13, 60)] (hv (hv J [162] [] Gl10) [100, 146, 150, 151, 152, 154, 161, 162, 163, 164] [(13, 47), (13, 48), (13, 56), (13, 57), (13, 58), (13, 59), (13, 60)] Gl12)), L, I, P, E, N) (sgM g) := by
                            rw [← ag_hvE (J := (hv J [162] [] Gl10)) (R := [100, 146, 150, 151, 152, 154, 161, 162, 163, 164]) (F := [(13, 47), (13, 48), (13, 56), (13, 57), (13, 58), (13, 59), (13, 60)]) (ag_hv rfl rfl ag_rf)]
                            exact hW
                          refine ih64 m3 m5 x31 (hv (hv J [162] [] Gl10) [100, 146, 150, 151, 152, 154, 161, 162, 163, 164] [(13, 47), (13, 48), (13, 56), (13, 57), (13, 58), (13, 59), (13, 60)] Gl12) H locs ls ?_ ?_ ?_ ?_ hWl (lv_sub hl [0, 1, 2, 3, 4, 5] rfl)
                          · show (a1.toInt + 1 - x31.toInt).toNat < n64
                            omega
                          · show 0 ≤ x31.toInt
                            first | omega | exact hi | assumption
                          · show (m5.toInt ≤ x31.toInt) ∨ (-1 ≤ (Gl12 161 0).toInt ∧ (Gl12 161 0).toInt < (J 13 40).toInt ∧ -1 ≤ (Gl12 161 1).toInt ∧ (Gl12 161 1).toInt < (J 13 40).toInt)
                            first | omega | exact hf | assumption
                          · rw [← ag_hvE (J := (hv J [162] [] Gl10)) (R := [100, 146, 150, 151, 152, 154, 161, 162, 163, 164]) (F := [(13, 47), (13, 48), (13, 56), (13, 57), (13, 58), (13, 59), (13, 60)]) (ag_hv rfl rfl ag_rf)]; exact cac_e (J := (hv (hv J [162] [] Gl10) [100, 146, 150, 151, 152, 154, 161, 162, 163, 164] [(13, 47), (13, 48), (13, 56), (13, 57), (13, 58), (13, 59), (13, 60)] Gl12)) ⟨rfl, rfl, rfl, rfl, rfl, rfl, rfl, rfl, rfl, rfl, rfl, rfl, rfl, rfl, rfl, rfl, rfl, rfl, rfl, rfl⟩ rfl rfl rfl hcc
                    · have c14 : m5.toInt ≤ m6.toInt := tnlt rfl rfl c14
                      refine lv_aload_n hx hb dX12_account_77 rfl (lv_at hl 3 rfl) ?_
                      refine lv_iload hx hb dX12_account_78 (lv_at hl 0 rfl) ?_
                      refine ci_ C hW (runV (x := (g.2.2.1 13)) (As := [.int m6]) (rest := []) (T := (((hv (hv J [162] [] Gl10) [100, 146, 150, 151, 152, 154, 161, 162, 163, 164] [(13, 47), (13, 48), (13, 56), (13, 57), (13, 58), (13, 59), (13, 60)] Gl12), L, I, P, E, N), sgM g)) C hW (c_X12_findsForce l g (hv (hv J [162] [] Gl10) [100, 146, 150, 151, 152, 154, 161, 162, 163, 164] [(13, 47), (13, 48), (13, 56), (13, 57), (13, 58), (13, 59), (13, 60)] Gl12) L I P E N H.size m6 hwm) mi_X12_findsForce tw_1437 (recv_ (T := (((hv (hv J [162] [] Gl10) [100, 146, 150, 151, 152, 154, 161, 162, 163, 164] [(13, 47), (13, 48), (13, 56), (13, 57), (13, 58), (13, 59), (13, 60)] Gl12), L, I, P, E, N), sgM g)) C hW (mm_ rfl) rfl rfl) ⟨rfl, rfl, Nat.le_of_ble_eq_true rfl, Nat.le_of_ble_eq_true rfl⟩ rfl hl.1 rfl (Nat.le_of_ble_eq_true rfl) dX12_account_80 ⟨Nat.le_of_ble_eq_true rfl, Nat.le_of_ble_eq_true rfl⟩) (fun r32 u32 H locs hp32 hW => ?_)
                      have hf32_0 : (-1 ≤ (u32 161 0).toInt ∧ (u32 161 0).toInt < (J 13 40).toInt ∧ -1 ≤ (u32 161 1).toInt ∧ (u32 161 1).toInt < (J 13 40).toInt) := hp32
                      clear hp32
                      have hW : WB g A s.heap H locs ((hv (hv (hv J [162] [] Gl10) [100, 146, 150, 151, 152, 154, 161, 162, 163, 164] [(13, 47), (13, 48), (13, 56), (13, 57), (13, 58), (13, 59), (13, 60)] Gl12) [161] [] u32), L, I, P, E, N) (sgM g) := hW
                      refine lv_istore (lv' := [(5, .int r32), (6, .int m6), (3, .long m3), (0, .ref (g.2.2.1 13)), (1, .int a0), (2, .int a1)]) hx hb dX12_account_83 hl (by decide) rfl (fun ls hl => ?_)
                      refine lv_aload_n hx hb dX12_account_85 rfl (lv_at hl 3 rfl) ?_
                      refine rg_13_61 C hW (mm_ rfl) tw_1084 dX12_account_86 ?_
                      refine lv_iconst (v := 0) hx hb dX12_account_89 (by decide) ?_
                      have hin : vp_in 0 2 := tin kp0 (by omega)
                      refine ra_161 C hW (mm_ rfl) hin dX12_account_90 ?_
                      refine lv_topi (fun x33 (e33 : x33 = u32 161 0) => ?_)
                      have t33 : x33.toInt = (u32 161 0).toInt := by rw [e33]
                      refine lv_if_ge (tgt := 106) hx hb dX12_account_91 (by decide) (fun c34 => ?_) (fun c34 => ?_)
                      · have c34 : 0 ≤ x33.toInt := tle kp0 rfl c34
                        refine lv_aload_n hx hb dX12_account_106 rfl (lv_at hl 3 rfl) ?_
                        refine lv_iload hx hb dX12_account_107 (lv_at hl 1 rfl) ?_
                        refine cv_ C hW (runV (x := (g.2.2.1 13)) (As := [.int m6]) (rest := []) (T := (((hv (hv (hv J [162] [] Gl10) [100, 146, 150, 151, 152, 154, 161, 162, 163, 164] [(13, 47), (13, 48), (13, 56), (13, 57), (13, 58), (13, 59), (13, 60)] Gl12) [161] [] u32), L, I, P, E, N), sgM g)) C hW (c_X12_puts_e l g (hv (hv (hv J [162] [] Gl10) [100, 146, 150, 151, 152, 154, 161, 162, 163, 164] [(13, 47), (13, 48), (13, 56), (13, 57), (13, 58), (13, 59), (13, 60)] Gl12) [161] [] u32) L I P E N H.size m6 hwm (show 0 ≤ m6.toInt ∧ m6.toInt < 10000 from by omega) (show m6.toInt < (J 13 31).toInt from by omega) (show CAC (hv (hv (hv J [162] [] Gl10) [100, 146, 150, 151, 152, 154, 161, 162, 163, 164] [(13, 47), (13, 48), (13, 56), (13, 57), (13, 58), (13, 59), (13, 60)] Gl12) [161] [] u32) from cac_e (J := (hv (hv J [162] [] Gl10) [100, 146, 150, 151, 152, 154, 161, 162, 163, 164] [(13, 47), (13, 48), (13, 56), (13, 57), (13, 58), (13, 59), (13, 60)] Gl12)) ⟨rfl, rfl, rfl, rfl, rfl, rfl, rfl, rfl, rfl, rfl, rfl, rfl, rfl, rfl, rfl, rfl, rfl, rfl, rfl, rfl⟩ rfl rfl rfl hcc)) mi_X12_puts tw_1428 (recv_ (T := (((hv (hv (hv J [162] [] Gl10) [100, 146, 150, 151, 152, 154, 161, 162, 163, 164] [(13, 47), (13, 48), (13, 56), (13, 57), (13, 58), (13, 59), (13, 60)] Gl12) [161] [] u32), L, I, P, E, N), sgM g)) C hW (mm_ rfl) rfl rfl) ⟨rfl, rfl, Nat.le_of_ble_eq_true rfl, Nat.le_of_ble_eq_true rfl⟩ rfl hl.1 rfl (Nat.le_of_ble_eq_true rfl) dX12_account_109 ⟨Nat.le_of_ble_eq_true rfl, Nat.le_of_ble_eq_true rfl⟩) (fun u35 H locs hp35 hW => ?_)
                        obtain ⟨hf35_0, hf35_1, hf35_2, hf35_3⟩ : (((J 116 m6.toNatClampNeg).toInt = 6 → (u35 13 47).toInt = 0 ∧ (u35 13 48).toInt = 0)) ∧ ((¬ (J 116 m6.toNatClampNeg).toInt = 6 → CAV (hv (hv (hv J [162] [] Gl10) [100, 146, 150, 151, 152, 154, 161, 162, 163, 164] [(13, 47), (13, 48), (13, 56), (13, 57), (13, 58), (13, 59), (13, 60)] Gl12) [161] [] u32) m6.toNatClampNeg (u35 13 47).toInt (u35 13 48).toInt)) ∧ (∀ c, isl c → LTR (u35 154) c = SCL (J 116 m6.toNatClampNeg) (hrw m6.toInt) (J 118 m6.toNatClampNeg) (u35 13 47) (u35 13 48) (J 120 m6.toNatClampNeg) (J 13 31 - m6) (J 13 35) c) ∧ (CAC (hv (hv (hv (hv J [162] [] Gl10) [100, 146, 150, 151, 152, 154, 161, 162, 163, 164] [(13, 47), (13, 48), (13, 56), (13, 57), (13, 58), (13, 59), (13, 60)] Gl12) [161] [] u32) [146, 150, 151, 152, 154] [(13, 47), (13, 48)] u35)) := hp35
                        have hW : WB g A s.heap H locs ((hv (hv (hv (hv J [162] [] Gl10) [100, 146, 150, 151, 152, 154, 161, 162, 163, 164] [(13, 47), (13, 48), (13, 56), (13, 57), (13, 58), (13, 59), (13, 60)] Gl12) [161] [] u32) [146, 150, 151, 152, 154] [(13, 47), (13, 48)] u35), L, I, P, E, N) (sgM g) := hW
                        have hPC := hf35_3
                        refine lv_lload_n hx hb dX12_account_112 rfl (lv_at hl 2 rfl) ?_
                        refine lv_aload_n hx hb dX12_account_113 rfl (lv_at hl 3 rfl) ?_
                        refine lv_iconst (v := 1) hx hb dX12_account_114 (by decide) ?_
                        refine ci_ C hW (runV (x := (g.2.2.1 13)) (As := [.int 1]) (rest := [.long m3]) (T := (((hv (hv (hv (hv J [162] [] Gl10) [100, 146, 150, 151, 152, 154, 161, 162, 163, 164] [(13, 47), (13, 48), (13, 56), (13, 57), (13, 58), (13, 59), (13, 60)] Gl12) [161] [] u32) [146, 150, 151, 152, 154] [(13, 47), (13, 48)] u35), L, I, P, E, N), sgM g)) C hW (c_X12_asBefore l g (hv (hv (hv (hv J [162] [] Gl10) [100, 146, 150, 151, 152, 154, 161, 162, 163, 164] [(13, 47), (13, 48), (13, 56), (13, 57), (13, 58), (13, 59), (13, 60)] Gl12) [161] [] u32) [146, 150, 151, 152, 154] [(13, 47), (13, 48)] u35) L I P E N H.size 1 hwm (show 0 ≤ (1 : Int32).toInt ∧ (1 : Int32).toInt ≤ 1 from by (try simp only [kp1]); omega) (show -1 ≤ (u32 161 1).toInt ∧ (u32 161 1).toInt < (J 13 40).toInt from by (try simp only [kp1]); omega)) mi_X12_asBefore tw_1441 (recv_ (T := (((hv (hv (hv (hv J [162] [] Gl10) [100, 146, 150, 151, 152, 154, 161, 162, 163, 164] [(13, 47), (13, 48), (13, 56), (13, 57), (13, 58), (13, 59), (13, 60)] Gl12) [161] [] u32) [146, 150, 151, 152, 154] [(13, 47), (13, 48)] u35), L, I, P, E, N), sgM g)) C hW (mm_ rfl) rfl rfl) ⟨rfl, rfl, Nat.le_of_ble_eq_true rfl, Nat.le_of_ble_eq_true rfl⟩ rfl hl.1 rfl (Nat.le_of_ble_eq_true rfl) dX12_account_115 ⟨Nat.le_of_ble_eq_true rfl, Nat.le_of_ble_eq_true rfl⟩) (fun r36 u36 H locs hp36 hW => ?_)
                        have hW : WB g A s.heap H locs ((hv (hv (hv (hv (hv J [162] [] Gl10) [100, 146, 150, 151, 152, 154, 161, 162, 163, 164] [(13, 47), (13, 48), (13, 56), (13, 57), (13, 58), (13, 59), (13, 60)] Gl12) [161] [] u32) [146, 150, 151, 152, 154] [(13, 47), (13, 48)] u35) [162, 163, 164] [(13, 56), (13, 57), (13, 58), (13, 59), (13, 60)] u36), L, I, P, E, N) (sgM g) := hW
                        refine lv_i2l (v := r36.toInt64) hx hb dX12_account_118 rfl ?_
                        refine lv_ladd hx hb dX12_account_119 ?_
                        refine lv_topl (fun z37 ez37 => ?_)
                        refine lv_lstore_n (lv' := [(3, .long z37), (5, .int r32), (6, .int m6), (0, .ref (g.2.2.1 13)), (1, .int a0), (2, .int a1)]) hx hb dX12_account_120 rfl hl (by decide) rfl (fun ls hl => ?_)
                        refine lv_lload_n hx hb dX12_account_121 rfl (lv_at hl 0 rfl) ?_
                        refine lv_aload_n hx hb dX12_account_122 rfl (lv_at hl 3 rfl) ?_
                        refine lv_iconst (v := 0) hx hb dX12_account_123 (by decide) ?_
                        refine ci_ C hW (runV (x := (g.2.2.1 13)) (As := [.int 0]) (rest := [.long z37]) (T := (((hv (hv (hv (hv (hv J [162] [] Gl10) [100, 146, 150, 151, 152, 154, 161, 162, 163, 164] [(13, 47), (13, 48), (13, 56), (13, 57), (13, 58), (13, 59), (13, 60)] Gl12) [161] [] u32) [146, 150, 151, 152, 154] [(13, 47), (13, 48)] u35) [162, 163, 164] [(13, 56), (13, 57), (13, 58), (13, 59), (13, 60)] u36), L, I, P, E, N), sgM g)) C hW (c_X12_asBefore l g (hv (hv (hv (hv (hv J [162] [] Gl10) [100, 146, 150, 151, 152, 154, 161, 162, 163, 164] [(13, 47), (13, 48), (13, 56), (13, 57), (13, 58), (13, 59), (13, 60)] Gl12) [161] [] u32) [146, 150, 151, 152, 154] [(13, 47), (13, 48)] u35) [162, 163, 164] [(13, 56), (13, 57), (13, 58), (13, 59), (13, 60)] u36) L I P E N H.size 0 hwm (show 0 ≤ (0 : Int32).toInt ∧ (0 : Int32).toInt ≤ 1 from by (try simp only [kp0]); omega) (show -1 ≤ (u32 161 0).toInt ∧ (u32 161 0).toInt < (J 13 40).toInt from by (try simp only [kp0]); omega)) mi_X12_asBefore tw_1441 (recv_ (T := (((hv (hv (hv (hv (hv J [162] [] Gl10) [100, 146, 150, 151, 152, 154, 161, 162, 163, 164] [(13, 47), (13, 48), (13, 56), (13, 57), (13, 58), (13, 59), (13, 60)] Gl12) [161] [] u32) [146, 150, 151, 152, 154] [(13, 47), (13, 48)] u35) [162, 163, 164] [(13, 56), (13, 57), (13, 58), (13, 59), (13, 60)] u36), L, I, P, E, N), sgM g)) C hW (mm_ rfl) rfl rfl) ⟨rfl, rfl, Nat.le_of_ble_eq_true rfl, Nat.le_of_ble_eq_true rfl⟩ rfl hl.1 rfl (Nat.le_of_ble_eq_true rfl) dX12_account_124 ⟨Nat.le_of_ble_eq_true rfl, Nat.le_of_ble_eq_true rfl⟩) (fun r38 u38 H locs hp38 hW => ?_)
                        have hW : WB g A s.heap H locs ((hv (hv (hv (hv (hv (hv J [162] [] Gl10) [100, 146, 150, 151, 152, 154, 161, 162, 163, 164] [(13, 47), (13, 48), (13, 56), (13, 57), (13, 58), (13, 59), (13, 60)] Gl12) [161] [] u32) [146, 150, 151, 152, 154] [(13, 47), (13, 48)] u35) [162, 163, 164] [(13, 56), (13, 57), (13, 58), (13, 59), (13, 60)] u36) [162, 163, 164] [(13, 56), (13, 57), (13, 58), (13, 59), (13, 60)] u38), L, I, P, E, N) (sgM g) := hW
                        refine lv_i2l (v := r38.toInt64) hx hb dX12_account_127 rfl ?_
                        refine lv_lsub hx hb dX12_account_128 ?_
                        refine lv_topl (fun z39 ez39 => ?_)
                        refine lv_lstore_n (lv' := [(3, .long z39), (5, .int r32), (6, .int m6), (0, .ref (g.2.2.1 13)), (1, .int a0), (2, .int a1)]) hx hb dX12_account_129 rfl hl (by decide) rfl (fun ls hl => ?_)
                        obtain ⟨x40, e40⟩ : ∃ y : Int32, y = m6 + 1 := ⟨_, rfl⟩
                        refine lv_iinc (v := x40) (lv' := [(6, .int x40), (3, .long z39), (5, .int r32), (0, .ref (g.2.2.1 13)), (1, .int a0), (2, .int a1)]) hx hb dX12_account_130 hl (k := 2) rfl (by rw [e40]; rfl) (by decide) rfl (fun ls hl => ?_)
                        try have t40 : x40.toInt = m6.toInt + 1 := tadd e40 rfl kp1 (by omega)
                        refine lv_goto (tgt := 64) hx hb dX12_account_133 (by decide) ?_
                        have hWl : WB g A s.heap H locs ((hv (hv J [162] [] Gl10) [100, 146, 150, 151, 152, 154, 161, 162, 163, 164] [(13, 47), (13, 48), (13, 56), (13, 57), (13, 58), (13, 59), (13, 60)] (hv (hv (hv (hv (hv (hv J [162] [] Gl10) [100, 146, 150, 151, 152, 154, 161, 162, 163, 164] [(13, 47), (13, 48), (13, 56), (13, 57), (13, 58), (13, 59), (13, 60)] Gl12) [161] [] u32) [146, 150, 151, 152, 154] [(13, 47), (13, 48)] u35) [162, 163, 164] [(13, 56), (13, 57), (13, 58), (13, 59), (13, 60)] u36) [162, 163, 164] [(13, 56), (13, 57), (13, 58), (13, 59), (13, 60)] u38)), L, I, P, E, N) (sgM g) := by
                          rw [← ag_hvE (J := (hv J [162] [] Gl10)) (R := [100, 146, 150, 151, 152, 154, 161, 162, 163, 164]) (F := [(13, 47), (13, 48), (13, 56), (13, 57), (13, 58), (13, 59), (13, 60)]) (ag_hv rfl rfl (ag_hv rfl rfl (ag_hv rfl rfl (ag_hv rfl rfl (ag_hv rfl rfl ag_rf)))))]
                          exact hW
                        refine ih64 z39 r32 x40 (hv (hv (hv (hv (hv (hv J [162] [] Gl10) [100, 146, 150, 151, 152, 154, 161, 162, 163, 164] [(13, 47), (13, 48), (13, 56), (13, 57), (13, 58), (13, 59), (13, 60)] Gl12) [161] [] u32) [146, 150, 151, 152, 154] [(13, 47), (13, 48)] u35) [162, 163, 164] [(13, 56), (13, 57), (13, 58), (13, 59), (13, 60)] u36) [162, 163, 164] [(13, 56), (13, 57), (13, 58), (13, 59), (13, 60)] u38) H locs ls ?_ ?_ ?_ ?_ hWl (lv_sub hl [0, 2, 1, 3, 4, 5] rfl)
                        · show (a1.toInt + 1 - x40.toInt).toNat < n64
                          omega
                        · show 0 ≤ x40.toInt
                          first | omega | exact hi | assumption
                        · show (r32.toInt ≤ x40.toInt) ∨ (-1 ≤ (u32 161 0).toInt ∧ (u32 161 0).toInt < (J 13 40).toInt ∧ -1 ≤ (u32 161 1).toInt ∧ (u32 161 1).toInt < (J 13 40).toInt)
                          first | omega | exact hf | assumption
                        · rw [← ag_hvE (J := (hv J [162] [] Gl10)) (R := [100, 146, 150, 151, 152, 154, 161, 162, 163, 164]) (F := [(13, 47), (13, 48), (13, 56), (13, 57), (13, 58), (13, 59), (13, 60)]) (ag_hv rfl rfl (ag_hv rfl rfl (ag_hv rfl rfl (ag_hv rfl rfl (ag_hv rfl rfl ag_rf)))))]; exact cac_e (J := (hv (hv (hv (hv J [162] [] Gl10) [100, 146, 150, 151, 152, 154, 161, 162, 163, 164] [(13, 47), (13, 48), (13, 56), (13, 57), (13, 58), (13, 59), (13, 60)] Gl12) [161] [] u32) [146, 150, 151, 152, 154] [(13, 47), (13, 48)] u35)) ⟨rfl, rfl, rfl, rfl, rfl, rfl, rfl, rfl, rfl, rfl, rfl, rfl, rfl, rfl, rfl, rfl, rfl, rfl, rfl, rfl⟩ rfl rfl rfl hPC
                      · have c34 : x33.toInt < 0 := tnle kp0 rfl c34
                        refine lv_aload_n hx hb dX12_account_94 rfl (lv_at hl 3 rfl) ?_
                        refine rg_13_61 C hW (mm_ rfl) tw_1084 dX12_account_95 ?_
                        refine lv_iconst (v := 1) hx hb dX12_account_98 (by decide) ?_
                        have hin : vp_in 1 2 := tin kp1 (by omega)
                        refine ra_161 C hW (mm_ rfl) hin dX12_account_99 ?_
                        refine lv_topi (fun x41 (e41 : x41 = u32 161 1) => ?_)
                        have t41 : x41.toInt = (u32 161 1).toInt := by rw [e41]
                        refine lv_if_ge (tgt := 106) hx hb dX12_account_100 (by decide) (fun c42 => ?_) (fun c42 => ?_)
                        · have c42 : 0 ≤ x41.toInt := tle kp0 rfl c42
                          refine lv_aload_n hx hb dX12_account_106 rfl (lv_at hl 3 rfl) ?_
                          refine lv_iload hx hb dX12_account_107 (lv_at hl 1 rfl) ?_
                          refine cv_ C hW (runV (x := (g.2.2.1 13)) (As := [.int m6]) (rest := []) (T := (((hv (hv (hv J [162] [] Gl10) [100, 146, 150, 151, 152, 154, 161, 162, 163, 164] [(13, 47), (13, 48), (13, 56), (13, 57), (13, 58), (13, 59), (13, 60)] Gl12) [161] [] u32), L, I, P, E, N), sgM g)) C hW (c_X12_puts_e l g (hv (hv (hv J [162] [] Gl10) [100, 146, 150, 151, 152, 154, 161, 162, 163, 164] [(13, 47), (13, 48), (13, 56), (13, 57), (13, 58), (13, 59), (13, 60)] Gl12) [161] [] u32) L I P E N H.size m6 hwm (show 0 ≤ m6.toInt ∧ m6.toInt < 10000 from by omega) (show m6.toInt < (J 13 31).toInt from by omega) (show CAC (hv (hv (hv J [162] [] Gl10) [100, 146, 150, 151, 152, 154, 161, 162, 163, 164] [(13, 47), (13, 48), (13, 56), (13, 57), (13, 58), (13, 59), (13, 60)] Gl12) [161] [] u32) from cac_e (J := (hv (hv J [162] [] Gl10) [100, 146, 150, 151, 152, 154, 161, 162, 163, 164] [(13, 47), (13, 48), (13, 56), (13, 57), (13, 58), (13, 59), (13, 60)] Gl12)) ⟨rfl, rfl, rfl, rfl, rfl, rfl, rfl, rfl, rfl, rfl, rfl, rfl, rfl, rfl, rfl, rfl, rfl, rfl, rfl, rfl⟩ rfl rfl rfl hcc)) mi_X12_puts tw_1428 (recv_ (T := (((hv (hv (hv J [162] [] Gl10) [100, 146, 150, 151, 152, 154, 161, 162, 163, 164] [(13, 47), (13, 48), (13, 56), (13, 57), (13, 58), (13, 59), (13, 60)] Gl12) [161] [] u32), L, I, P, E, N), sgM g)) C hW (mm_ rfl) rfl rfl) ⟨rfl, rfl, Nat.le_of_ble_eq_true rfl, Nat.le_of_ble_eq_true rfl⟩ rfl hl.1 rfl (Nat.le_of_ble_eq_true rfl) dX12_account_109 ⟨Nat.le_of_ble_eq_true rfl, Nat.le_of_ble_eq_true rfl⟩) (fun u43 H locs hp43 hW => ?_)
                          obtain ⟨hf43_0, hf43_1, hf43_2, hf43_3⟩ : (((J 116 m6.toNatClampNeg).toInt = 6 → (u43 13 47).toInt = 0 ∧ (u43 13 48).toInt = 0)) ∧ ((¬ (J 116 m6.toNatClampNeg).toInt = 6 → CAV (hv (hv (hv J [162] [] Gl10) [100, 146, 150, 151, 152, 154, 161, 162, 163, 164] [(13, 47), (13, 48), (13, 56), (13, 57), (13, 58), (13, 59), (13, 60)] Gl12) [161] [] u32) m6.toNatClampNeg (u43 13 47).toInt (u43 13 48).toInt)) ∧ (∀ c, isl c → LTR (u43 154) c = SCL (J 116 m6.toNatClampNeg) (hrw m6.toInt) (J 118 m6.toNatClampNeg) (u43 13 47) (u43 13 48) (J 120 m6.toNatClampNeg) (J 13 31 - m6) (J 13 35) c) ∧ (CAC (hv (hv (hv (hv J [162] [] Gl10) [100, 146, 150, 151, 152, 154, 161, 162, 163, 164] [(13, 47), (13, 48), (13, 56), (13, 57), (13, 58), (13, 59), (13, 60)] Gl12) [161] [] u32) [146, 150, 151, 152, 154] [(13, 47), (13, 48)] u43)) := hp43
                          have hW : WB g A s.heap H locs ((hv (hv (hv (hv J [162] [] Gl10) [100, 146, 150, 151, 152, 154, 161, 162, 163, 164] [(13, 47), (13, 48), (13, 56), (13, 57), (13, 58), (13, 59), (13, 60)] Gl12) [161] [] u32) [146, 150, 151, 152, 154] [(13, 47), (13, 48)] u43), L, I, P, E, N) (sgM g) := hW
                          have hPC := hf43_3
                          refine lv_lload_n hx hb dX12_account_112 rfl (lv_at hl 2 rfl) ?_
                          refine lv_aload_n hx hb dX12_account_113 rfl (lv_at hl 3 rfl) ?_
                          refine lv_iconst (v := 1) hx hb dX12_account_114 (by decide) ?_
                          refine ci_ C hW (runV (x := (g.2.2.1 13)) (As := [.int 1]) (rest := [.long m3]) (T := (((hv (hv (hv (hv J [162] [] Gl10) [100, 146, 150, 151, 152, 154, 161, 162, 163, 164] [(13, 47), (13, 48), (13, 56), (13, 57), (13, 58), (13, 59), (13, 60)] Gl12) [161] [] u32) [146, 150, 151, 152, 154] [(13, 47), (13, 48)] u43), L, I, P, E, N), sgM g)) C hW (c_X12_asBefore l g (hv (hv (hv (hv J [162] [] Gl10) [100, 146, 150, 151, 152, 154, 161, 162, 163, 164] [(13, 47), (13, 48), (13, 56), (13, 57), (13, 58), (13, 59), (13, 60)] Gl12) [161] [] u32) [146, 150, 151, 152, 154] [(13, 47), (13, 48)] u43) L I P E N H.size 1 hwm (show 0 ≤ (1 : Int32).toInt ∧ (1 : Int32).toInt ≤ 1 from by (try simp only [kp1]); omega) (show -1 ≤ (u32 161 1).toInt ∧ (u32 161 1).toInt < (J 13 40).toInt from by (try simp only [kp1]); omega)) mi_X12_asBefore tw_1441 (recv_ (T := (((hv (hv (hv (hv J [162] [] Gl10) [100, 146, 150, 151, 152, 154, 161, 162, 163, 164] [(13, 47), (13, 48), (13, 56), (13, 57), (13, 58), (13, 59), (13, 60)] Gl12) [161] [] u32) [146, 150, 151, 152, 154] [(13, 47), (13, 48)] u43), L, I, P, E, N), sgM g)) C hW (mm_ rfl) rfl rfl) ⟨rfl, rfl, Nat.le_of_ble_eq_true rfl, Nat.le_of_ble_eq_true rfl⟩ rfl hl.1 rfl (Nat.le_of_ble_eq_true rfl) dX12_account_115 ⟨Nat.le_of_ble_eq_true rfl, Nat.le_of_ble_eq_true rfl⟩) (fun r44 u44 H locs hp44 hW => ?_)
                          have hW : WB g A s.heap H locs ((hv (hv (hv (hv (hv J [162] [] Gl10) [100, 146, 150, 151, 152, 154, 161, 162, 163, 164] [(13, 47), (13, 48), (13, 56), (13, 57), (13, 58), (13, 59), (13, 60)] Gl12) [161] [] u32) [146, 150, 151, 152, 154] [(13, 47), (13, 48)] u43) [162, 163, 164] [(13, 56), (13, 57), (13, 58), (13, 59), (13, 60)] u44), L, I, P, E, N) (sgM g) := hW
                          refine lv_i2l (v := r44.toInt64) hx hb dX12_account_118 rfl ?_
                          refine lv_ladd hx hb dX12_account_119 ?_
                          refine lv_topl (fun z45 ez45 => ?_)
                          refine lv_lstore_n (lv' := [(3, .long z45), (5, .int r32), (6, .int m6), (0, .ref (g.2.2.1 13)), (1, .int a0), (2, .int a1)]) hx hb dX12_account_120 rfl hl (by decide) rfl (fun ls hl => ?_)
                          refine lv_lload_n hx hb dX12_account_121 rfl (lv_at hl 0 rfl) ?_
                          refine lv_aload_n hx hb dX12_account_122 rfl (lv_at hl 3 rfl) ?_
                          refine lv_iconst (v := 0) hx hb dX12_account_123 (by decide) ?_
                          refine ci_ C hW (runV (x := (g.2.2.1 13)) (As := [.int 0]) (rest := [.long z45]) (T := (((hv (hv (hv (hv (hv J [162] [] Gl10) [100, 146, 150, 151, 152, 154, 161, 162, 163, 164] [(13, 47), (13, 48), (13, 56), (13, 57), (13, 58), (13, 59), (13, 60)] Gl12) [161] [] u32) [146, 150, 151, 152, 154] [(13, 47), (13, 48)] u43) [162, 163, 164] [(13, 56), (13, 57), (13, 58), (13, 59), (13, 60)] u44), L, I, P, E, N), sgM g)) C hW (c_X12_asBefore l g (hv (hv (hv (hv (hv J [162] [] Gl10) [100, 146, 150, 151, 152, 154, 161, 162, 163, 164] [(13, 47), (13, 48), (13, 56), (13, 57), (13, 58), (13, 59), (13, 60)] Gl12) [161] [] u32) [146, 150, 151, 152, 154] [(13, 47), (13, 48)] u43) [162, 163, 164] [(13, 56), (13, 57), (13, 58), (13, 59), (13, 60)] u44) L I P E N H.size 0 hwm (show 0 ≤ (0 : Int32).toInt ∧ (0 : Int32).toInt ≤ 1 from by (try simp only [kp0]); omega) (show -1 ≤ (u32 161 0).toInt ∧ (u32 161 0).toInt < (J 13 40).toInt from by (try simp only [kp0]); omega)) mi_X12_asBefore tw_1441 (recv_ (T := (((hv (hv (hv (hv (hv J [162] [] Gl10) [100, 146, 150, 151, 152, 154, 161, 162, 163, 164] [(13, 47), (13, 48), (13, 56), (13, 57), (13, 58), (13, 59), (13, 60)] Gl12) [161] [] u32) [146, 150, 151, 152, 154] [(13, 47), (13, 48)] u43) [162, 163, 164] [(13, 56), (13, 57), (13, 58), (13, 59), (13, 60)] u44), L, I, P, E, N), sgM g)) C hW (mm_ rfl) rfl rfl) ⟨rfl, rfl, Nat.le_of_ble_eq_true rfl, Nat.le_of_ble_eq_true rfl⟩ rfl hl.1 rfl (Nat.le_of_ble_eq_true rfl) dX12_account_124 ⟨Nat.le_of_ble_eq_true rfl, Nat.le_of_ble_eq_true rfl⟩) (fun r46 u46 H locs hp46 hW => ?_)
                          have hW : WB g A s.heap H locs ((hv (hv (hv (hv (hv (hv J [162] [] Gl10) [100, 146, 150, 151, 152, 154, 161, 162, 163, 164] [(13, 47), (13, 48), (13, 56), (13, 57), (13, 58), (13, 59), (13, 60)] Gl12) [161] [] u32) [146, 150, 151, 152, 154] [(13, 47), (13, 48)] u43) [162, 163, 164] [(13, 56), (13, 57), (13, 58), (13, 59), (13, 60)] u44) [162, 163, 164] [(13, 56), (13, 57), (13, 58), (13, 59), (13, 60)] u46), L, I, P, E, N) (sgM g) := hW
                          refine lv_i2l (v := r46.toInt64) hx hb dX12_account_127 rfl ?_
                          refine lv_lsub hx hb dX12_account_128 ?_
                          refine lv_topl (fun z47 ez47 => ?_)
                          refine lv_lstore_n (lv' := [(3, .long z47), (5, .int r32), (6, .int m6), (0, .ref (g.2.2.1 13)), (1, .int a0), (2, .int a1)]) hx hb dX12_account_129 rfl hl (by decide) rfl (fun ls hl => ?_)
                          obtain ⟨x48, e48⟩ : ∃ y : Int32, y = m6 + 1 := ⟨_, rfl⟩
                          refine lv_iinc (v := x48) (lv' := [(6, .int x48), (3, .long z47), (5, .int r32), (0, .ref (g.2.2.1 13)), (1, .int a0), (2, .int a1)]) hx hb dX12_account_130 hl (k := 2) rfl (by rw [e48]; rfl) (by decide) rfl (fun ls hl => ?_)
                          try have t48 : x48.toInt = m6.toInt + 1 := tadd e48 rfl kp1 (by omega)
                          refine lv_goto (tgt := 64) hx hb dX12_account_133 (by decide) ?_
                          have hWl : WB g A s.heap H locs ((hv (hv J [162] [] Gl10) [100, 146, 150, 151, 152, 154, 161, 162, 163, 164] [(13, 47), (13, 48), (13, 56), (13, 57), (13, 58), (13, 59), (13, 60)] (hv (hv (hv (hv (hv (hv J [162] [] Gl10) [100, 146, 150, 151, 152, 154, 161, 162, 163, 164] [(13, 47), (13, 48), (13, 56), (13, 57), (13, 58), (13, 59), (13, 60)] Gl12) [161] [] u32) [146, 150, 151, 152, 154] [(13, 47), (13, 48)] u43) [162, 163, 164] [(13, 56), (13, 57), (13, 58), (13, 59), (13, 60)] u44) [162, 163, 164] [(13, 56), (13, 57), (13, 58), (13, 59), (13, 60)] u46)), L, I, P, E, N) (sgM g) := by
                            rw [← ag_hvE (J := (hv J [162] [] Gl10)) (R := [100, 146, 150, 151, 152, 154, 161, 162, 163, 164]) (F := [(13, 47), (13, 48), (13, 56), (13, 57), (13, 58), (13, 59), (13, 60)]) (ag_hv rfl rfl (ag_hv rfl rfl (ag_hv rfl rfl (ag_hv rfl rfl (ag_hv rfl rfl ag_rf)))))]
                            exact hW
                          refine ih64 z47 r32 x48 (hv (hv (hv (hv (hv (hv J [162] [] Gl10) [100, 146, 150, 151, 152, 154, 161, 162, 163, 164] [(13, 47), (13, 48), (13, 56), (13, 57), (13, 58), (13, 59), (13, 60)] Gl12) [161] [] u32) [146, 150, 151, 152, 154] [(13, 47), (13, 48)] u43) [162, 163, 164] [(13, 56), (13, 57), (13, 58), (13, 59), (13, 60)] u44) [162, 163, 164] [(13, 56), (13, 57), (13, 58), (13, 59), (13, 60)] u46) H locs ls ?_ ?_ ?_ ?_ hWl (lv_sub hl [0, 2, 1, 3, 4, 5] rfl)
                          · show (a1.toInt + 1 - x48.toInt).toNat < n64
                            omega
                          · show 0 ≤ x48.toInt
                            first | omega | exact hi | assumption
                          · show (r32.toInt ≤ x48.toInt) ∨ (-1 ≤ (u32 161 0).toInt ∧ (u32 161 0).toInt < (J 13 40).toInt ∧ -1 ≤ (u32 161 1).toInt ∧ (u32 161 1).toInt < (J 13 40).toInt)
                            first | omega | exact hf | assumption
                          · rw [← ag_hvE (J := (hv J [162] [] Gl10)) (R := [100, 146, 150, 151, 152, 154, 161, 162, 163, 164]) (F := [(13, 47), (13, 48), (13, 56), (13, 57), (13, 58), (13, 59), (13, 60)]) (ag_hv rfl rfl (ag_hv rfl rfl (ag_hv rfl rfl (ag_hv rfl rfl (ag_hv rfl rfl ag_rf)))))]; exact cac_e (J := (hv (hv (hv (hv J [162] [] Gl10) [100, 146, 150, 151, 152, 154, 161, 162, 163, 164] [(13, 47), (13, 48), (13, 56), (13, 57), (13, 58), (13, 59), (13, 60)] Gl12) [161] [] u32) [146, 150, 151, 152, 154] [(13, 47), (13, 48)] u43)) ⟨rfl, rfl, rfl, rfl, rfl, rfl, rfl, rfl, rfl, rfl, rfl, rfl, rfl, rfl, rfl, rfl, rfl, rfl, rfl, rfl⟩ rfl rfl rfl hPC
                        · have c42 : x41.toInt < 0 := tnle kp0 rfl c42
                          refine lv_goto (tgt := 130) hx hb dX12_account_103 (by decide) ?_
                          obtain ⟨x49, e49⟩ : ∃ y : Int32, y = m6 + 1 := ⟨_, rfl⟩
                          refine lv_iinc (v := x49) (lv' := [(6, .int x49), (5, .int r32), (3, .long m3), (0, .ref (g.2.2.1 13)), (1, .int a0), (2, .int a1)]) hx hb dX12_account_130 hl (k := 1) rfl (by rw [e49]; rfl) (by decide) rfl (fun ls hl => ?_)
                          try have t49 : x49.toInt = m6.toInt + 1 := tadd e49 rfl kp1 (by omega)
                          refine lv_goto (tgt := 64) hx hb dX12_account_133 (by decide) ?_
                          have hWl : WB g A s.heap H locs ((hv (hv J [162] [] Gl10) [100, 146, 150, 151, 152, 154, 161, 162, 163, 164] [(13, 47), (13, 48), (13, 56), (13, 57), (13, 58), (13, 59), (13, 60)] (hv (hv (hv J [162] [] Gl10) [100, 146, 150, 151, 152, 154, 161, 162, 163, 164] [(13, 47), (13, 48), (13, 56), (13, 57), (13, 58), (13, 59), (13, 60)] Gl12) [161] [] u32)), L, I, P, E, N) (sgM g) := by
                            rw [← ag_hvE (J := (hv J [162] [] Gl10)) (R := [100, 146, 150, 151, 152, 154, 161, 162, 163, 164]) (F := [(13, 47), (13, 48), (13, 56), (13, 57), (13, 58), (13, 59), (13, 60)]) (ag_hv rfl rfl (ag_hv rfl rfl ag_rf))]
                            exact hW
                          refine ih64 m3 r32 x49 (hv (hv (hv J [162] [] Gl10) [100, 146, 150, 151, 152, 154, 161, 162, 163, 164] [(13, 47), (13, 48), (13, 56), (13, 57), (13, 58), (13, 59), (13, 60)] Gl12) [161] [] u32) H locs ls ?_ ?_ ?_ ?_ hWl (lv_sub hl [0, 1, 2, 3, 4, 5] rfl)
                          · show (a1.toInt + 1 - x49.toInt).toNat < n64
                            omega
                          · show 0 ≤ x49.toInt
                            first | omega | exact hi | assumption
                          · show (r32.toInt ≤ x49.toInt) ∨ (-1 ≤ (u32 161 0).toInt ∧ (u32 161 0).toInt < (J 13 40).toInt ∧ -1 ≤ (u32 161 1).toInt ∧ (u32 161 1).toInt < (J 13 40).toInt)
                            first | omega | exact hf | assumption
                          · rw [← ag_hvE (J := (hv J [162] [] Gl10)) (R := [100, 146, 150, 151, 152, 154, 161, 162, 163, 164]) (F := [(13, 47), (13, 48), (13, 56), (13, 57), (13, 58), (13, 59), (13, 60)]) (ag_hv rfl rfl (ag_hv rfl rfl ag_rf))]; exact cac_e (J := (hv (hv J [162] [] Gl10) [100, 146, 150, 151, 152, 154, 161, 162, 163, 164] [(13, 47), (13, 48), (13, 56), (13, 57), (13, 58), (13, 59), (13, 60)] Gl12)) ⟨rfl, rfl, rfl, rfl, rfl, rfl, rfl, rfl, rfl, rfl, rfl, rfl, rfl, rfl, rfl, rfl, rfl, rfl, rfl, rfl⟩ rfl rfl rfl hcc
              -- into the loop
              have hWl : WB g A s.heap H locs ((hv (hv J [162] [] Gl10) [100, 146, 150, 151, 152, 154, 161, 162, 163, 164] [(13, 47), (13, 48), (13, 56), (13, 57), (13, 58), (13, 59), (13, 60)] (hv J [162] [] Gl10)), L, I, P, E, N) (sgM g) := by
                rw [← ag_hvE (J := (hv J [162] [] Gl10)) (R := [100, 146, 150, 151, 152, 154, 161, 162, 163, 164]) (F := [(13, 47), (13, 48), (13, 56), (13, 57), (13, 58), (13, 59), (13, 60)]) ag_rf]
                exact hW
              refine loop64 ((a1.toInt + 1 - a0.toInt).toNat + 1) (0 : Int64) a0 a0 (hv J [162] [] Gl10) H locs ls ?_ ?_ ?_ ?_ hWl (lv_sub hl [0, 1, 2, 3, 4, 5] rfl)
              · exact Nat.lt_succ_self _
              · show 0 ≤ a0.toInt
                first | omega | exact hi | assumption
              · show (a0.toInt ≤ a0.toInt) ∨ (-1 ≤ (J 161 0).toInt ∧ (J 161 0).toInt < (J 13 40).toInt ∧ -1 ≤ (J 161 1).toInt ∧ (J 161 1).toInt < (J 13 40).toInt)
                first | omega | exact hf | assumption
              · rw [← ag_hvE (J := (hv J [162] [] Gl10)) (R := [100, 146, 150, 151, 152, 154, 161, 162, 163, 164]) (F := [(13, 47), (13, 48), (13, 56), (13, 57), (13, 58), (13, 59), (13, 60)]) ag_rf]; exact cac_e (J := J) ⟨rfl, rfl, rfl, rfl, rfl, rfl, rfl, rfl, rfl, rfl, rfl, rfl, rfl, rfl, rfl, rfl, rfl, rfl, rfl, rfl⟩ rfl rfl rfl hcac
            · have c11 : m6.toInt < 2 := tnle kp2 rfl c11
              refine lv_aload_n hx hb dX12_account_46 rfl (lv_at hl 3 rfl) ?_
              refine rg_13_62 C hW (mm_ rfl) tw_1085 dX12_account_47 ?_
              refine lv_iload hx hb dX12_account_50 (lv_at hl 0 rfl) ?_
              refine lv_bipush (v := (-9)) hx hb dX12_account_52 (by decide) ?_
              have hin : vp_in m6 2 := tin rfl (by omega)
              refine rs_162 C hW (mm_ rfl) hin dX12_account_54 (fun H locs hW => ?_)
              obtain ⟨x50, e50⟩ : ∃ y : Int32, y = m6 + 1 := ⟨_, rfl⟩
              refine lv_iinc (v := x50) (lv' := [(6, .int x50), (5, .int a0), (3, .long (0 : Int64)), (0, .ref (g.2.2.1 13)), (1, .int a0), (2, .int a1)]) hx hb dX12_account_55 hl (k := 0) rfl (by rw [e50]; rfl) (by decide) rfl (fun ls hl => ?_)
              try have t50 : x50.toInt = m6.toInt + 1 := tadd e50 rfl kp1 (by omega)
              refine lv_goto (tgt := 40) hx hb dX12_account_58 (by decide) ?_
              have hWl : WB g A s.heap H locs ((hv J [162] [] (up2 (hv J [162] [] Gl10) 162 m6.toNatClampNeg (-9))), L, I, P, E, N) (sgM g) := by
                rw [← ag_hvE (J := J) (R := [162]) (F := []) (ag_up (Or.inl rfl) (ag_hv rfl rfl ag_rf))]
                exact hW
              refine ih x50 (up2 (hv J [162] [] Gl10) 162 m6.toNatClampNeg (-9)) H locs ls ?_ ?_ hWl (lv_sub hl [0, 1, 2, 3, 4, 5] rfl)
              · show (2 - x50.toInt).toNat < n
                omega
              · show 0 ≤ x50.toInt
                first | omega | exact hi | assumption
        -- into the loop
        have hWl : WB g A s.heap H locs ((hv J [162] [] J), L, I, P, E, N) (sgM g) := by
          rw [← ag_hvE (J := J) (R := [162]) (F := []) ag_rf]
          exact hW
        refine loop40 ((2 - (0 : Int32).toInt).toNat + 1) 0 J H locs ls ?_ ?_ hWl (lv_sub hl [0, 1, 2, 3, 4, 5] rfl)
        · exact Nat.lt_succ_self _
        · show 0 ≤ (0 : Int32).toInt
          try rw [kp0]
          first | omega | exact hi | assumption
      · have c9 : a1.toInt < a0.toInt := tnle rfl rfl c9
        refine lv_ldc2 hx hb C.1.2.2.2.1 (hts _ tw_1436) dX12_account_21 ?_
        refine lv_aload_n hx hb dX12_account_24 rfl (lv_at hl 0 rfl) ?_
        refine lv_iconst (v := (-1)) hx hb dX12_account_25 (by decide) ?_
        refine ci_ C hW (runV (x := (g.2.2.1 13)) (As := [.int (-1)]) (rest := [.long (4000000000000000000 : Int64)]) (T := ((J, L, I, P, E, N), sgM g)) C hW (c_X12_refuse l g J L I P E N H.size (-1) (show -6 ≤ (-1 : Int32).toInt ∧ (-1 : Int32).toInt ≤ -1 from by (try simp only [kn1]); omega)) mi_X12_refuse tw_1239 (recv_ (T := ((J, L, I, P, E, N), sgM g)) C hW (mm_ rfl) rfl rfl) ⟨rfl, rfl, Nat.le_of_ble_eq_true rfl, Nat.le_of_ble_eq_true rfl⟩ rfl hl.1 rfl (Nat.le_of_ble_eq_true rfl) dX12_account_26 ⟨Nat.le_of_ble_eq_true rfl, Nat.le_of_ble_eq_true rfl⟩) (fun r51 u51 H locs hp51 hW => ?_)
        have hc51 : ((r51 = (-1))) := hp51
        clear hp51
        have hr51 : r51.toInt = (-1) := by rw [hc51]; exact kn1
        have hW : WB g A s.heap H locs ((hv J [100] [] u51), L, I, P, E, N) (sgM g) := hW
        refine lv_i2l (v := r51.toInt64) hx hb dX12_account_29 rfl ?_
        refine lv_lsub hx hb dX12_account_30 ?_
        refine lv_topl (fun z52 ez52 => ?_)
        have hWr : WB g A s.heap H locs (hv J [100, 146, 150, 151, 152, 154, 161, 162, 163, 164] [(13, 47), (13, 48), (13, 56), (13, 57), (13, 58), (13, 59), (13, 60)] (hv J [100] [] u51), L, I, P, E, N) (sgM g) := by
          rw [← ag_hvE (J := J) (R := [100, 146, 150, 151, 152, 154, 161, 162, 163, 164]) (F := [(13, 47), (13, 48), (13, 56), (13, 57), (13, 58), (13, 59), (13, 60)]) (ag_hv rfl rfl ag_rf)]
          exact hW
        subst hQ9
        exact end_l C hr hlocks (hv J [100] [] u51) hWr (show CAC (hv J [100, 146, 150, 151, 152, 154, 161, 162, 163, 164] [(13, 47), (13, 48), (13, 56), (13, 57), (13, 58), (13, 59), (13, 60)] (hv J [100] [] u51)) from by rw [← ag_hvE (J := J) (R := [100, 146, 150, 151, 152, 154, 161, 162, 163, 164]) (F := [(13, 47), (13, 48), (13, 56), (13, 57), (13, 58), (13, 59), (13, 60)]) (ag_hv rfl rfl ag_rf)]; exact cac_e (J := J) ⟨rfl, rfl, rfl, rfl, rfl, rfl, rfl, rfl, rfl, rfl, rfl, rfl, rfl, rfl, rfl, rfl, rfl, rfl, rfl, rfl⟩ rfl rfl rfl hcac) dX12_account_31
