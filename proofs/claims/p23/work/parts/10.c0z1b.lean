set_option maxHeartbeats 4000000 in
set_option maxRecDepth 100000 in
theorem c_X3_raise_b (l : Launch) (g : gG) (J : Nat → Nat → Int32) (L : Nat → Nat → Int64) (I : Nat → Nat → Nat → Int32) (P : Nat → Nat → Nat → Option Nat) (E : Nat → Option Nat) (N : Nat → Nat) (dy : List (Nat × Nat)) (sz : Nat) (a0 : Int32) (hwf : WXF g J P E N dy) (hij : INJ E P 20 (J 20 2).toInt) (hch : CHN I E P (J 125) (J 126) (J 23 2).toInt (J 20 2).toInt) (hc9 : (J 23 2).toInt ≤ 9) : Met l yX3_raise (WS yX3_raise cX3_raise 4 none) (RM (4) 0 0) (PC g [.ref (g.2.2.1 4), .int a0] ((J, L, I, P, E, N), sgX g ++ dy) sz) (va_Qv (fun (u : (Nat → Nat → Nat → Int32)) => (∀ b : Nat, (∀ j : Nat, (j : Int) < (J 23 2).toInt → ¬ elt E P 23 j = b) → u 6 5 b = I 6 5 b) ∧ (a0.toInt = 0 → ∀ j : Nat, (j : Int) < (J 23 2).toInt → (u 6 5 (elt E P 23 j)).toInt = 0) ∧ (RSP (fun k => u 6 5 (elt E P 20 k)) (fun k => I 6 5 (elt E P 20 k)) (J 125) (J 126) a0 (J 23 2).toInt (J 20 2).toInt)) (fun u t => at_ g (FR g ((J, L, I, P, E, N), sgX g ++ dy) sz) ((J, L, (hv I [] [(6, 5)] u), P, E, N), sgX g ++ dy) t) (FR g ((J, L, I, P, E, N), sgX g ++ dy) sz)) 0 0 (FR g ((J, L, I, P, E, N), sgX g ++ dy) sz) := by
  refine ent (by decide +kernel) (Nat.le_of_ble_eq_true rfl) ?_
  intro p e s m below meth c ls hsz C hW hr hlocks hname hl
  generalize FR g ((J, L, I, P, E, N), sgX g ++ dy) sz = A at C hW ⊢
  generalize hQ9 : (va_Qv (fun (u : (Nat → Nat → Nat → Int32)) => (∀ b : Nat, (∀ j : Nat, (j : Int) < (J 23 2).toInt → ¬ elt E P 23 j = b) → u 6 5 b = I 6 5 b) ∧ (a0.toInt = 0 → ∀ j : Nat, (j : Int) < (J 23 2).toInt → (u 6 5 (elt E P 23 j)).toInt = 0) ∧ (RSP (fun k => u 6 5 (elt E P 20 k)) (fun k => I 6 5 (elt E P 20 k)) (J 125) (J 126) a0 (J 23 2).toInt (J 20 2).toInt)) (fun u t => at_ g A ((J, L, (hv I [] [(6, 5)] u), P, E, N), sgX g ++ dy) t) A) = Q9
  have hx := C.1.1
  have hb := C.1.2.1
  have hts := C.1.2.2.2.2
  have hl : lv_has ls 4 [(0, .ref (g.2.2.1 4)), (1, .int a0)] := hl
  obtain ⟨H, hH⟩ : ∃ H : Heap, H = s.heap := ⟨_, rfl⟩
  obtain ⟨locs, hlocs⟩ : ∃ q : List Loc, q = [] := ⟨_, rfl⟩
  have hW : WB g A s.heap H locs (J, L, I, P, E, N) (sgX g ++ dy) := by rw [hH, hlocs]; exact hW
  obtain ⟨h20a, h20b, -⟩ := hwf.1.1
  obtain ⟨h22a, h22b, -⟩ := hwf.1.2.2.1
  obtain ⟨h23a, h23b, -⟩ := hwf.1.2.2.2
  refine start_ hH hlocs ?_
  refine lv_iconst (v := 0) hx hb dX3_raise_0 (by decide) ?_
  refine lv_istore_n (lv' := [(2, .int 0), (0, .ref (g.2.2.1 4)), (1, .int a0)]) hx hb dX3_raise_1 rfl hl (by decide) rfl (fun ls hl => ?_)
  have loop2 : ∀ (n : Nat) (m2 : Int32) (Kl1 : Nat → Nat → Nat → Int32) (H : Heap) (locs : List Loc) (ls : Array Slot), ((J 23 2).toInt - m2.toInt).toNat < n → 0 ≤ m2.toInt ∧ m2.toInt ≤ (J 23 2).toInt → (∀ b : Nat, (∀ j : Nat, (j : Int) < (J 23 2).toInt → ¬ elt E P 23 j = b) → Kl1 6 5 b = I 6 5 b) → (a0.toInt = 0 → ∀ j : Nat, (j : Int) < m2.toInt → (Kl1 6 5 (elt E P 23 j)).toInt = 0) → RSP (fun k => Kl1 6 5 (elt E P 20 k)) (fun k => I 6 5 (elt E P 20 k)) (J 125) (J 126) a0 m2.toInt (J 20 2).toInt → WB g A s.heap H locs (J, L, (hv I [] [(6, 5)] Kl1), P, E, N) (sgX g ++ dy) → lv_has ls 4 [(2, .int m2), (0, .ref (g.2.2.1 4)), (1, .int a0)] → W p l e (RM (4) 0 0) s m ([.ref (g.2.2.1 4), .int a0] : List Value).toArray below meth c H locs 0 0 (MQ below Q9 ([.ref (g.2.2.1 4), .int a0] : List Value).toArray s 0 0 A) (F0 m 2 ls []) := by
    intro n
    induction n with
    | zero => intro m2 Kl1 H locs ls hmeas; exact absurd hmeas (Nat.not_lt_zero _)
    | succ n ih =>
      intro m2 Kl1 H locs ls hmeas hi hr0 hr1 hrs hW hl
      refine lv_iload_n hx hb dX3_raise_2 rfl (lv_at hl 0 rfl) ?_
      refine lv_aload_n hx hb dX3_raise_3 rfl (lv_at hl 1 rfl) ?_
      refine rg_4_3 C hW (mx_ rfl) tw_238 dX3_raise_4 ?_
      refine ci_ C hW (runV (x := (g.2.2.1 23)) (As := []) (rest := [.int m2]) (T := ((J, L, (hv I [] [(6, 5)] Kl1), P, E, N), sgX g ++ dy)) C hW (c_Jx4a65c_size_8abf5 l g J L (hv I [] [(6, 5)] Kl1) P E N dy H.size 23 rfl ) mi_Jx4a65c_size_8abf5 tw_467 (recv_ (T := ((J, L, (hv I [] [(6, 5)] Kl1), P, E, N), sgX g ++ dy)) C hW (mx_ rfl) (cel_list rfl) rfl) ⟨rfl, rfl, Nat.le_of_ble_eq_true rfl, Nat.le_of_ble_eq_true rfl⟩ rfl hl.1 rfl (Nat.le_of_ble_eq_true rfl) dX3_raise_7 ⟨Nat.le_of_ble_eq_true rfl, Nat.le_of_ble_eq_true rfl⟩) (fun r2 u2 H locs hp2 hW => ?_)
      have hc2 : ((r2 = J 23 2)) := hp2
      clear hp2
      have hr2 : r2 = J 23 2 := hc2
      refine lv_as (J 23 2) hr2 ?_
      have hW : WB g A s.heap H locs (J, L, (hv I [] [(6, 5)] Kl1), P, E, N) (sgX g ++ dy) := hW
      refine lv_icmp_ge (tgt := 51) hx hb dX3_raise_10 (by decide) (fun c3 => ?_) (fun c3 => ?_)
      · have c3 : (J 23 2).toInt ≤ m2.toInt := tle rfl rfl c3
        have hWr : WB g A s.heap H locs (J, L, (hv I [] [(6, 5)] (hv I [] [(6, 5)] Kl1)), P, E, N) (sgX g ++ dy) := by
          rw [← ag_hvE (J := I) (R := []) (F := [(6, 5)]) (ag_hv rfl rfl ag_rf)]
          exact hW
        subst hQ9
        exact end_v C hr hlocks (hv I [] [(6, 5)] Kl1) hWr ⟨show ∀ b : Nat, (∀ j : Nat, (j : Int) < (J 23 2).toInt → ¬ elt E P 23 j = b) → (hv I [] [(6, 5)] Kl1) 6 5 b = I 6 5 b from by exact hr0, show a0.toInt = 0 → ∀ j : Nat, (j : Int) < (J 23 2).toInt → ((hv I [] [(6, 5)] Kl1) 6 5 (elt E P 23 j)).toInt = 0 from by exact fun hz j hj => hr1 hz j (by omega), show RSP (fun k => (hv I [] [(6, 5)] Kl1) 6 5 (elt E P 20 k)) (fun k => I 6 5 (elt E P 20 k)) (J 125) (J 126) a0 (J 23 2).toInt (J 20 2).toInt from by (have e9 : m2.toInt = (J 23 2).toInt := (by omega); rw [← e9]; exact hrs)⟩ dX3_raise_51
      · have c3 : m2.toInt < (J 23 2).toInt := tnle rfl rfl c3
        refine lv_aload_n hx hb dX3_raise_13 rfl (lv_at hl 1 rfl) ?_
        refine rg_4_3 C hW (mx_ rfl) tw_238 dX3_raise_14 ?_
        refine lv_iload_n hx hb dX3_raise_17 rfl (lv_at hl 0 rfl) ?_
        refine cq_ C hW (runV (x := (g.2.2.1 23)) (As := [.int m2]) (rest := []) (T := ((J, L, (hv I [] [(6, 5)] Kl1), P, E, N), sgX g ++ dy)) C hW ((c_Jx4a65c_get_915e3 6) l g J L (hv I [] [(6, 5)] Kl1) P E N dy H.size 23 rfl m2 (show LWF g J P E N dy 23 6 from hwf.1.2.2.2) (show 0 ≤ m2.toInt ∧ m2.toInt < (J 23 2).toInt from by omega)) mi_Jx4a65c_get_915e3 tw_471 (recv_ (T := ((J, L, (hv I [] [(6, 5)] Kl1), P, E, N), sgX g ++ dy)) C hW (mx_ rfl) (cel_list rfl) rfl) ⟨rfl, rfl, Nat.le_of_ble_eq_true rfl, Nat.le_of_ble_eq_true rfl⟩ rfl hl.1 rfl (Nat.le_of_ble_eq_true rfl) dX3_raise_18 ⟨Nat.le_of_ble_eq_true rfl, Nat.le_of_ble_eq_true rfl⟩) (fun q4 u4 H locs hp4 hW => ?_)
        have hq4 : (q4 = some (elt E P 23 m2.toNatClampNeg)) := hp4
        clear hp4
        have hW : WB g A s.heap H locs (J, L, (hv I [] [(6, 5)] Kl1), P, E, N) (sgX g ++ dy) := hW
        subst hq4
        obtain ⟨o4, ho4⟩ : ∃ z : Nat, z = elt E P 23 m2.toNatClampNeg := ⟨_, rfl⟩
        have hm4 : (6, o4) ∈ dy := by rw [ho4]; exact (lw_mem (er := 6) hwf.1.2.2.2 (show (m2.toNatClampNeg : Int) < (J 23 2).toInt from by have := tcl m2; omega))
        refine lv_asv (v' := .ref o4) (by rw [ho4]; rfl) ?_
        refine g_cast C hW (List.mem_append_right _ hm4) rfl rfl tw_131 dX3_raise_21 ?_
        refine lv_astore_n (lv' := [(3, .ref o4), (2, .int m2), (0, .ref (g.2.2.1 4)), (1, .int a0)]) hx hb dX3_raise_24 rfl hl (by decide) rfl (fun ls hl => ?_)
        refine lv_aload_n hx hb dX3_raise_25 rfl (lv_at hl 0 rfl) ?_
        refine lv_iload_n hx hb dX3_raise_26 rfl (lv_at hl 3 rfl) ?_
        refine lv_iload_n hx hb dX3_raise_27 rfl (lv_at hl 1 rfl) ?_
        refine lv_ishr hx hb dX3_raise_28 ?_
        refine lv_topi (fun x5 (e5 : x5 = a0 >>> (m2 &&& 31)) => ?_)
        refine lv_iconst (v := 1) hx hb dX3_raise_29 (by decide) ?_
        refine lv_iand hx hb dX3_raise_30 ?_
        refine lv_topi (fun x6 (e6 : x6 = x5 &&& 1) => ?_)
        refine lv_if_eq (tgt := 41) hx hb dX3_raise_31 (by decide) (fun c7 => ?_) (fun c7 => ?_)
        · have c7 : x6.toInt = 0 := teq rfl kp0 c7
          refine lv_iconst (v := 0) hx hb dX3_raise_41 (by decide) ?_
          refine rp_6_5 C hW (List.mem_append_right _ hm4) tw_147 dX3_raise_42 (fun H locs hW => ?_)
          obtain ⟨x8, e8⟩ : ∃ y : Int32, y = m2 + 1 := ⟨_, rfl⟩
          refine lv_iinc (v := x8) (lv' := [(2, .int x8), (3, .ref o4), (0, .ref (g.2.2.1 4)), (1, .int a0)]) hx hb dX3_raise_45 hl (k := 1) rfl (by rw [e8]; rfl) (by decide) rfl (fun ls hl => ?_)
          try have t8 : x8.toInt = m2.toInt + 1 := tadd e8 rfl kp1 (by omega)
          refine lv_goto (tgt := 2) hx hb dX3_raise_48 (by decide) ?_
          have hWl : WB g A s.heap H locs (J, L, (hv I [] [(6, 5)] (up3 (hv I [] [(6, 5)] Kl1) 6 5 o4 0)), P, E, N) (sgX g ++ dy) := by
            rw [← ag_hvE (J := I) (R := []) (F := [(6, 5)]) (ag_up3 (Or.inr rfl) (ag_hv rfl rfl ag_rf))]
            exact hW
          refine ih x8 (up3 (hv I [] [(6, 5)] Kl1) 6 5 o4 0) H locs ls ?_ ?_ ?_ ?_ ?_ hWl (lv_sub hl [0, 2, 3] rfl)
          · show ((J 23 2).toInt - x8.toInt).toNat < n
            omega
          · show 0 ≤ x8.toInt ∧ x8.toInt ≤ (J 23 2).toInt
            first | omega | exact hi | assumption
          · show ∀ b : Nat, (∀ j : Nat, (j : Int) < (J 23 2).toInt → ¬ elt E P 23 j = b) → (up3 (hv I [] [(6, 5)] Kl1) 6 5 o4 0) 6 5 b = I 6 5 b
            (intro b hbs; exact (up3_a _ _ _ _ (fun q => hbs m2.toNatClampNeg (by have h8 := tcl m2; omega) (by rw [q, ho4])) _ _).trans (hr0 b hbs))
          · show a0.toInt = 0 → ∀ j : Nat, (j : Int) < x8.toInt → ((up3 (hv I [] [(6, 5)] Kl1) 6 5 o4 0) 6 5 (elt E P 23 j)).toInt = 0
            (intro hz j hj; by_cases q : elt E P 23 j = o4; rw [q]; exact congrArg Int32.toInt (up3_s _ _ _ _ _); exact (congrArg Int32.toInt (up3_a _ _ _ _ q _ _)).trans (hr1 hz j (by have h8 := tcl m2; have h7 : j ≠ m2.toNatClampNeg := (fun e => q (by rw [e, ho4])); omega)))
          · show RSP (fun k => (up3 (hv I [] [(6, 5)] Kl1) 6 5 o4 0) 6 5 (elt E P 20 k)) (fun k => I 6 5 (elt E P 20 k)) (J 125) (J 126) a0 x8.toInt (J 20 2).toInt
            exact rsp_c (i := m2.toInt) hrs hij hch ho4 (by omega) (by omega) (by omega) (by rcases ib_shr (by omega) (by omega) e5 e6 with ⟨q1, q2⟩ | ⟨q1, q2⟩ <;> first | (exfalso; omega) | (rw [if_neg q2]; done) | (rw [if_pos q2]; exact chn_gain (i := m2.toInt) hch ho4 (by omega) (by omega)))
        · have c7 : ¬ x6.toInt = 0 := tne rfl kp0 c7
          refine lv_aload_n hx hb dX3_raise_34 rfl (lv_at hl 0 rfl) ?_
          refine rg_6_4 C hW (List.mem_append_right _ hm4) tw_144 dX3_raise_35 ?_
          refine lv_topi (fun x9 (e9 : x9 = I 6 4 o4) => ?_)
          have t9 : x9.toInt = (I 6 4 o4).toInt := by rw [e9]
          refine lv_goto (tgt := 42) hx hb dX3_raise_38 (by decide) ?_
          refine rp_6_5 C hW (List.mem_append_right _ hm4) tw_147 dX3_raise_42 (fun H locs hW => ?_)
          obtain ⟨x10, e10⟩ : ∃ y : Int32, y = m2 + 1 := ⟨_, rfl⟩
          refine lv_iinc (v := x10) (lv' := [(2, .int x10), (3, .ref o4), (0, .ref (g.2.2.1 4)), (1, .int a0)]) hx hb dX3_raise_45 hl (k := 1) rfl (by rw [e10]; rfl) (by decide) rfl (fun ls hl => ?_)
          try have t10 : x10.toInt = m2.toInt + 1 := tadd e10 rfl kp1 (by omega)
          refine lv_goto (tgt := 2) hx hb dX3_raise_48 (by decide) ?_
          have hWl : WB g A s.heap H locs (J, L, (hv I [] [(6, 5)] (up3 (hv I [] [(6, 5)] Kl1) 6 5 o4 x9)), P, E, N) (sgX g ++ dy) := by
            rw [← ag_hvE (J := I) (R := []) (F := [(6, 5)]) (ag_up3 (Or.inr rfl) (ag_hv rfl rfl ag_rf))]
            exact hW
          refine ih x10 (up3 (hv I [] [(6, 5)] Kl1) 6 5 o4 x9) H locs ls ?_ ?_ ?_ ?_ ?_ hWl (lv_sub hl [0, 2, 3] rfl)
          · show ((J 23 2).toInt - x10.toInt).toNat < n
            omega
          · show 0 ≤ x10.toInt ∧ x10.toInt ≤ (J 23 2).toInt
            first | omega | exact hi | assumption
          · show ∀ b : Nat, (∀ j : Nat, (j : Int) < (J 23 2).toInt → ¬ elt E P 23 j = b) → (up3 (hv I [] [(6, 5)] Kl1) 6 5 o4 x9) 6 5 b = I 6 5 b
            (intro b hbs; exact (up3_a _ _ _ _ (fun q => hbs m2.toNatClampNeg (by have h8 := tcl m2; omega) (by rw [q, ho4])) _ _).trans (hr0 b hbs))
          · show a0.toInt = 0 → ∀ j : Nat, (j : Int) < x10.toInt → ((up3 (hv I [] [(6, 5)] Kl1) 6 5 o4 x9) 6 5 (elt E P 23 j)).toInt = 0
            (intro hz; exfalso; have h9 := sh0 hz e5 e6; omega)
          · show RSP (fun k => (up3 (hv I [] [(6, 5)] Kl1) 6 5 o4 x9) 6 5 (elt E P 20 k)) (fun k => I 6 5 (elt E P 20 k)) (J 125) (J 126) a0 x10.toInt (J 20 2).toInt
            exact rsp_c (i := m2.toInt) hrs hij hch ho4 (by omega) (by omega) (by omega) (by rcases ib_shr (by omega) (by omega) e5 e6 with ⟨q1, q2⟩ | ⟨q1, q2⟩ <;> first | (exfalso; omega) | (rw [if_neg q2]; done) | (rw [if_pos q2]; exact e9.trans (chn_gain (i := m2.toInt) hch ho4 (by omega) (by omega))))
  -- into the loop
  have hWl : WB g A s.heap H locs (J, L, (hv I [] [(6, 5)] I), P, E, N) (sgX g ++ dy) := by
    rw [← ag_hvE (J := I) (R := []) (F := [(6, 5)]) ag_rf]
    exact hW
  refine loop2 (((J 23 2).toInt - (0 : Int32).toInt).toNat + 1) 0 I H locs ls ?_ ?_ ?_ ?_ ?_ hWl (lv_sub hl [0, 1, 2] rfl)
  · exact Nat.lt_succ_self _
  · show 0 ≤ (0 : Int32).toInt ∧ (0 : Int32).toInt ≤ (J 23 2).toInt
    try rw [kp0]
    first | omega | exact hi | assumption
  · show ∀ b : Nat, (∀ j : Nat, (j : Int) < (J 23 2).toInt → ¬ elt E P 23 j = b) → I 6 5 b = I 6 5 b
    try rw [kp0]
    exact fun _ _ => rfl
  · show a0.toInt = 0 → ∀ j : Nat, (j : Int) < (0 : Int32).toInt → (I 6 5 (elt E P 23 j)).toInt = 0
    try rw [kp0]
    intro hz j hj; omega
  · show RSP (fun k => I 6 5 (elt E P 20 k)) (fun k => I 6 5 (elt E P 20 k)) (J 125) (J 126) a0 (0 : Int32).toInt (J 20 2).toInt
    try rw [kp0]
    exact rsp_0 (by first | rfl | exact kp0)

set_option maxHeartbeats 4000000 in
set_option maxRecDepth 100000 in
theorem c_X3_allReachedWith_b (l : Launch) (g : gG) (J : Nat → Nat → Int32) (L : Nat → Nat → Int64) (I : Nat → Nat → Nat → Int32) (P : Nat → Nat → Nat → Option Nat) (E : Nat → Option Nat) (N : Nat → Nat) (dy : List (Nat × Nat)) (sz : Nat) (a0 : Int32) (a1 : Int32) (hwf : WXF g J P E N dy) (hnt : NTR (P 6 0) (elt E P 20) (J 101) (J 20 2).toInt) (hij : INJ E P 20 (J 20 2).toInt) (hcu : CUR (P 1 0) (I 1 1) (I 1 2) (elt E P 21) (elt E P 20) (J 105) (J 106) (J 107) (J 21 2).toInt (J 20 2).toInt) (hhm : HMR (P 2 0) (I 2 1) (I 2 2) (I 2 3) (elt E P 22) (elt E P 20) (J 108) (J 109) (J 110) (J 111) (J 22 2).toInt (J 20 2).toInt) (hch : CHN I E P (J 125) (J 126) (J 23 2).toInt (J 20 2).toInt) (hc9 : (J 23 2).toInt ≤ 9) (hex0 : ∀ k : Nat, (k : Int) < (J 20 2).toInt → (∀ j : Nat, (j : Int) < (J 23 2).toInt → ¬ (J 125 j).toInt = (k : Int)) → (I 6 5 (elt E P 20 k)).toInt = 0) : Met l yX3_allReachedWith (WS yX3_allReachedWith cX3_allReachedWith 4 (some .boolean)) (RM (6) 0 0) (PC g [.ref (g.2.2.1 4), .int a0, .int a1] ((J, L, I, P, E, N), sgX g ++ dy) sz) (va_Qi (fun (r : Int32) (u : (Nat → Nat → Nat → Int32)) => ((r.toInt = 1) ∨ (r.toInt = 0)) ∧ (∀ b : Nat, (∀ j : Nat, (j : Int) < (J 23 2).toInt → ¬ elt E P 23 j = b) → u 6 5 b = I 6 5 b) ∧ (∃ x : Nat → Int32, SND x (J 101) (fun k => I 6 1 (elt E P 20 k)) (fun k => I 6 3 (elt E P 20 k)) (EXS (J 125) (J 126) a0 (J 23 2).toInt.toNat) (CUTP (J 105) (J 106) (J 107) (J 21 2).toInt (-1 : Int32).toInt) a1 (J 4 4) (J 20 2).toInt ∧ (((r.toInt : Int) = 1 ∧ HALC x (J 109) (J 108) (J 4 5) (J 22 2).toInt) ∨ ((r.toInt : Int) = 0 ∧ ¬ HALC x (J 109) (J 108) (J 4 5) (J 22 2).toInt)))) (fun u t => at_ g (FR g ((J, L, I, P, E, N), sgX g ++ dy) sz) ((J, L, (hv I [] [(6, 5), (6, 6), (6, 7)] u), P, E, N), sgX g ++ dy) t) (FR g ((J, L, I, P, E, N), sgX g ++ dy) sz)) 0 0 (FR g ((J, L, I, P, E, N), sgX g ++ dy) sz) := by
  refine ent (by decide +kernel) (Nat.le_of_ble_eq_true rfl) ?_
  intro p e s m below meth c ls hsz C hW hr hlocks hname hl
  generalize FR g ((J, L, I, P, E, N), sgX g ++ dy) sz = A at C hW ⊢
  generalize hQ9 : (va_Qi (fun (r : Int32) (u : (Nat → Nat → Nat → Int32)) => ((r.toInt = 1) ∨ (r.toInt = 0)) ∧ (∀ b : Nat, (∀ j : Nat, (j : Int) < (J 23 2).toInt → ¬ elt E P 23 j = b) → u 6 5 b = I 6 5 b) ∧ (∃ x : Nat → Int32, SND x (J 101) (fun k => I 6 1 (elt E P 20 k)) (fun k => I 6 3 (elt E P 20 k)) (EXS (J 125) (J 126) a0 (J 23 2).toInt.toNat) (CUTP (J 105) (J 106) (J 107) (J 21 2).toInt (-1 : Int32).toInt) a1 (J 4 4) (J 20 2).toInt ∧ (((r.toInt : Int) = 1 ∧ HALC x (J 109) (J 108) (J 4 5) (J 22 2).toInt) ∨ ((r.toInt : Int) = 0 ∧ ¬ HALC x (J 109) (J 108) (J 4 5) (J 22 2).toInt)))) (fun u t => at_ g A ((J, L, (hv I [] [(6, 5), (6, 6), (6, 7)] u), P, E, N), sgX g ++ dy) t) A) = Q9
  have hx := C.1.1
  have hb := C.1.2.1
  have hts := C.1.2.2.2.2
  have hl : lv_has ls 4 [(0, .ref (g.2.2.1 4)), (1, .int a0), (2, .int a1)] := hl
  obtain ⟨H, hH⟩ : ∃ H : Heap, H = s.heap := ⟨_, rfl⟩
  obtain ⟨locs, hlocs⟩ : ∃ q : List Loc, q = [] := ⟨_, rfl⟩
  have hW : WB g A s.heap H locs (J, L, I, P, E, N) (sgX g ++ dy) := by rw [hH, hlocs]; exact hW
  obtain ⟨h20a, h20b, -⟩ := hwf.1.1
  obtain ⟨h22a, h22b, -⟩ := hwf.1.2.2.1
  obtain ⟨h23a, h23b, -⟩ := hwf.1.2.2.2
  refine start_ hH hlocs ?_
  refine lv_aload_n hx hb dX3_allReachedWith_0 rfl (lv_at hl 0 rfl) ?_
  refine lv_iload_n hx hb dX3_allReachedWith_1 rfl (lv_at hl 1 rfl) ?_
  refine cv_ C hW (runV (x := (g.2.2.1 4)) (As := [.int a0]) (rest := []) (T := ((J, L, I, P, E, N), sgX g ++ dy)) C hW (c_X3_raise_b l g J L I P E N dy H.size a0 hwf (show INJ E P 20 (J 20 2).toInt from hij) (show CHN I E P (J 125) (J 126) (J 23 2).toInt (J 20 2).toInt from hch) (show (J 23 2).toInt ≤ 9 from hc9)) mi_X3_raise tw_891 (recv_ (T := ((J, L, I, P, E, N), sgX g ++ dy)) C hW (mx_ rfl) rfl rfl) ⟨rfl, rfl, Nat.le_of_ble_eq_true rfl, Nat.le_of_ble_eq_true rfl⟩ rfl hl.1 rfl (Nat.le_of_ble_eq_true rfl) dX3_allReachedWith_2 ⟨Nat.le_of_ble_eq_true rfl, Nat.le_of_ble_eq_true rfl⟩) (fun u1 H locs hp1 hW => ?_)
  obtain ⟨hf1_0, hf1_1, hf1_2⟩ : (∀ b : Nat, (∀ j : Nat, (j : Int) < (J 23 2).toInt → ¬ elt E P 23 j = b) → u1 6 5 b = I 6 5 b) ∧ (a0.toInt = 0 → ∀ j : Nat, (j : Int) < (J 23 2).toInt → (u1 6 5 (elt E P 23 j)).toInt = 0) ∧ (RSP (fun k => u1 6 5 (elt E P 20 k)) (fun k => I 6 5 (elt E P 20 k)) (J 125) (J 126) a0 (J 23 2).toInt (J 20 2).toInt) := hp1
  have hW : WB g A s.heap H locs (J, L, (hv I [] [(6, 5)] u1), P, E, N) (sgX g ++ dy) := hW
  have hA0 := hf1_0
  have hRS := hf1_2
  refine lv_aload_n hx hb dX3_allReachedWith_5 rfl (lv_at hl 0 rfl) ?_
  refine lv_iload_n hx hb dX3_allReachedWith_6 rfl (lv_at hl 2 rfl) ?_
  refine lv_aload_n hx hb dX3_allReachedWith_7 rfl (lv_at hl 0 rfl) ?_
  refine rg_4_4 C hW (mx_ rfl) tw_241 dX3_allReachedWith_8 ?_
  refine lv_iconst (v := (-1)) hx hb dX3_allReachedWith_11 (by decide) ?_
  refine cv_ C hW (runV (x := (g.2.2.1 4)) (As := [.int a1, .int (J 4 4), .int (-1)]) (rest := []) (T := ((J, L, (hv I [] [(6, 5)] u1), P, E, N), sgX g ++ dy)) C hW (c_X3_carry_e l g J L (hv I [] [(6, 5)] u1) P E N dy H.size a1 (J 4 4) (-1) hwf (show NTR (P 6 0) (elt E P 20) (J 101) (J 20 2).toInt from hnt) (show INJ E P 20 (J 20 2).toInt from hij) (show CUR (P 1 0) ((hv I [] [(6, 5)] u1) 1 1) ((hv I [] [(6, 5)] u1) 1 2) (elt E P 21) (elt E P 20) (J 105) (J 106) (J 107) (J 21 2).toInt (J 20 2).toInt from hcu)) mi_X3_carry tw_716 (recv_ (T := ((J, L, (hv I [] [(6, 5)] u1), P, E, N), sgX g ++ dy)) C hW (mx_ rfl) rfl rfl) ⟨rfl, rfl, Nat.le_of_ble_eq_true rfl, Nat.le_of_ble_eq_true rfl⟩ rfl hl.1 rfl (Nat.le_of_ble_eq_true rfl) dX3_allReachedWith_12 ⟨Nat.le_of_ble_eq_true rfl, Nat.le_of_ble_eq_true rfl⟩) (fun u2 H locs hp2 hW => ?_)
  have hf2_0 : (SND (fun k => u2 6 7 (elt E P 20 k)) (J 101) (fun k => (hv I [] [(6, 5)] u1) 6 1 (elt E P 20 k)) (fun k => (hv I [] [(6, 5)] u1) 6 3 (elt E P 20 k)) (fun k => (hv I [] [(6, 5)] u1) 6 5 (elt E P 20 k)) (CUTP (J 105) (J 106) (J 107) (J 21 2).toInt (-1 : Int32).toInt) a1 (J 4 4) (J 20 2).toInt) := hp2
  clear hp2
  have hW : WB g A s.heap H locs (J, L, (hv (hv I [] [(6, 5)] u1) [] [(6, 6), (6, 7)] u2), P, E, N) (sgX g ++ dy) := hW
  have hS := hf2_0
  refine lv_iconst (v := 0) hx hb dX3_allReachedWith_15 (by decide) ?_
  refine lv_istore_n (lv' := [(3, .int 0), (0, .ref (g.2.2.1 4)), (1, .int a0), (2, .int a1)]) hx hb dX3_allReachedWith_16 rfl hl (by decide) rfl (fun ls hl => ?_)
  have loop17 : ∀ (n : Nat) (m3 : Int32) (H : Heap) (locs : List Loc) (ls : Array Slot), ((J 22 2).toInt - m3.toInt).toNat < n → 0 ≤ m3.toInt ∧ m3.toInt ≤ (J 22 2).toInt → (∀ h : Nat, (h : Int) < m3.toInt → (J 4 5 * J 109 h).toInt ≤ ((hv (hv I [] [(6, 5)] u1) [] [(6, 6), (6, 7)] u2) 6 7 (elt E P 20 (J 108 h).toNatClampNeg)).toInt) → WB g A s.heap H locs (J, L, (hv (hv I [] [(6, 5)] u1) [] [(6, 6), (6, 7)] u2), P, E, N) (sgX g ++ dy) → lv_has ls 4 [(3, .int m3), (0, .ref (g.2.2.1 4)), (1, .int a0), (2, .int a1)] → W p l e (RM (6) 0 0) s m ([.ref (g.2.2.1 4), .int a0, .int a1] : List Value).toArray below meth c H locs 0 0 (MQ below Q9 ([.ref (g.2.2.1 4), .int a0, .int a1] : List Value).toArray s 0 0 A) (F0 m 17 ls []) := by
    intro n
    induction n with
    | zero => intro m3 H locs ls hmeas; exact absurd hmeas (Nat.not_lt_zero _)
    | succ n ih =>
      intro m3 H locs ls hmeas hi hal hW hl
      refine lv_iload_n hx hb dX3_allReachedWith_17 rfl (lv_at hl 0 rfl) ?_
      refine lv_aload_n hx hb dX3_allReachedWith_18 rfl (lv_at hl 1 rfl) ?_
      refine rg_4_2 C hW (mx_ rfl) tw_236 dX3_allReachedWith_19 ?_
      refine ci_ C hW (runV (x := (g.2.2.1 22)) (As := []) (rest := [.int m3]) (T := ((J, L, (hv (hv I [] [(6, 5)] u1) [] [(6, 6), (6, 7)] u2), P, E, N), sgX g ++ dy)) C hW (c_Jx4a65c_size_8abf5 l g J L (hv (hv I [] [(6, 5)] u1) [] [(6, 6), (6, 7)] u2) P E N dy H.size 22 rfl ) mi_Jx4a65c_size_8abf5 tw_467 (recv_ (T := ((J, L, (hv (hv I [] [(6, 5)] u1) [] [(6, 6), (6, 7)] u2), P, E, N), sgX g ++ dy)) C hW (mx_ rfl) (cel_list rfl) rfl) ⟨rfl, rfl, Nat.le_of_ble_eq_true rfl, Nat.le_of_ble_eq_true rfl⟩ rfl hl.1 rfl (Nat.le_of_ble_eq_true rfl) dX3_allReachedWith_22 ⟨Nat.le_of_ble_eq_true rfl, Nat.le_of_ble_eq_true rfl⟩) (fun r3 u3 H locs hp3 hW => ?_)
      have hc3 : ((r3 = J 22 2)) := hp3
      clear hp3
      have hr3 : r3 = J 22 2 := hc3
      refine lv_as (J 22 2) hr3 ?_
      have hW : WB g A s.heap H locs (J, L, (hv (hv I [] [(6, 5)] u1) [] [(6, 6), (6, 7)] u2), P, E, N) (sgX g ++ dy) := hW
      refine lv_icmp_ge (tgt := 57) hx hb dX3_allReachedWith_25 (by decide) (fun c4 => ?_) (fun c4 => ?_)
      · have c4 : (J 22 2).toInt ≤ m3.toInt := tle rfl rfl c4
        refine lv_iconst (v := 1) hx hb dX3_allReachedWith_57 (by decide) ?_
        have hWr : WB g A s.heap H locs (J, L, (hv I [] [(6, 5), (6, 6), (6, 7)] (hv (hv I [] [(6, 5)] u1) [] [(6, 6), (6, 7)] u2)), P, E, N) (sgX g ++ dy) := by
          rw [← ag_hvE (J := I) (R := []) (F := [(6, 5), (6, 6), (6, 7)]) (ag_hv rfl rfl (ag_hv rfl rfl ag_rf))]
          exact hW
        subst hQ9
        exact end_z C hr hlocks (by decide) (hv (hv I [] [(6, 5)] u1) [] [(6, 6), (6, 7)] u2) hWr ⟨by first | exact Or.inl (by decide), show ∀ b : Nat, (∀ j : Nat, (j : Int) < (J 23 2).toInt → ¬ elt E P 23 j = b) → (hv (hv I [] [(6, 5)] u1) [] [(6, 6), (6, 7)] u2) 6 5 b = I 6 5 b from by exact fun b hbs => hA0 b hbs, show ∃ x : Nat → Int32, SND x (J 101) (fun k => I 6 1 (elt E P 20 k)) (fun k => I 6 3 (elt E P 20 k)) (EXS (J 125) (J 126) a0 (J 23 2).toInt.toNat) (CUTP (J 105) (J 106) (J 107) (J 21 2).toInt (-1 : Int32).toInt) a1 (J 4 4) (J 20 2).toInt ∧ (((1 : Int) = 1 ∧ HALC x (J 109) (J 108) (J 4 5) (J 22 2).toInt) ∨ ((1 : Int) = 0 ∧ ¬ HALC x (J 109) (J 108) (J 4 5) (J 22 2).toInt)) from by exact ⟨_, snd_mo hS (rsp_e hRS (by omega) (fun k hk hno => z_i (hex0 k hk hno))), Or.inl ⟨rfl, fun h hh => hal h (by omega)⟩⟩⟩ dX3_allReachedWith_58
      · have c4 : m3.toInt < (J 22 2).toInt := tnle rfl rfl c4
        refine lv_aload_n hx hb dX3_allReachedWith_28 rfl (lv_at hl 1 rfl) ?_
        refine rg_4_2 C hW (mx_ rfl) tw_236 dX3_allReachedWith_29 ?_
        refine lv_iload_n hx hb dX3_allReachedWith_32 rfl (lv_at hl 0 rfl) ?_
        refine cq_ C hW (runV (x := (g.2.2.1 22)) (As := [.int m3]) (rest := []) (T := ((J, L, (hv (hv I [] [(6, 5)] u1) [] [(6, 6), (6, 7)] u2), P, E, N), sgX g ++ dy)) C hW ((c_Jx4a65c_get_915e3 2) l g J L (hv (hv I [] [(6, 5)] u1) [] [(6, 6), (6, 7)] u2) P E N dy H.size 22 rfl m3 (show LWF g J P E N dy 22 2 from hwf.1.2.2.1) (show 0 ≤ m3.toInt ∧ m3.toInt < (J 22 2).toInt from by omega)) mi_Jx4a65c_get_915e3 tw_471 (recv_ (T := ((J, L, (hv (hv I [] [(6, 5)] u1) [] [(6, 6), (6, 7)] u2), P, E, N), sgX g ++ dy)) C hW (mx_ rfl) (cel_list rfl) rfl) ⟨rfl, rfl, Nat.le_of_ble_eq_true rfl, Nat.le_of_ble_eq_true rfl⟩ rfl hl.1 rfl (Nat.le_of_ble_eq_true rfl) dX3_allReachedWith_33 ⟨Nat.le_of_ble_eq_true rfl, Nat.le_of_ble_eq_true rfl⟩) (fun q5 u5 H locs hp5 hW => ?_)
        have hq5 : (q5 = some (elt E P 22 m3.toNatClampNeg)) := hp5
        clear hp5
        have hW : WB g A s.heap H locs (J, L, (hv (hv I [] [(6, 5)] u1) [] [(6, 6), (6, 7)] u2), P, E, N) (sgX g ++ dy) := hW
        subst hq5
        obtain ⟨o5, ho5⟩ : ∃ z : Nat, z = elt E P 22 m3.toNatClampNeg := ⟨_, rfl⟩
        have hm5 : (2, o5) ∈ dy := by rw [ho5]; exact (lw_mem (er := 2) hwf.1.2.2.1 (show (m3.toNatClampNeg : Int) < (J 22 2).toInt from by have := tcl m3; omega))
        refine lv_asv (v' := .ref o5) (by rw [ho5]; rfl) ?_
        refine g_cast C hW (List.mem_append_right _ hm5) rfl rfl tw_580 dX3_allReachedWith_36 ?_
        refine lv_aload_n hx hb dX3_allReachedWith_39 rfl (lv_at hl 1 rfl) ?_
        refine rg_4_5 C hW (mx_ rfl) tw_242 dX3_allReachedWith_40 ?_
        refine ci_ C hW (runV (x := o5) (As := [.int (J 4 5)]) (rest := []) (T := ((J, L, (hv (hv I [] [(6, 5)] u1) [] [(6, 6), (6, 7)] u2), P, E, N), sgX g ++ dy)) C hW (c_X1_isReached_e l g J L (hv (hv I [] [(6, 5)] u1) [] [(6, 6), (6, 7)] u2) P E N dy H.size o5 hm5 (J 4 5) hwf) mi_X1_isReached tw_721 (recv_ (T := ((J, L, (hv (hv I [] [(6, 5)] u1) [] [(6, 6), (6, 7)] u2), P, E, N), sgX g ++ dy)) C hW (List.mem_append_right _ hm5) rfl rfl) ⟨rfl, rfl, Nat.le_of_ble_eq_true rfl, Nat.le_of_ble_eq_true rfl⟩ rfl hl.1 rfl (Nat.le_of_ble_eq_true rfl) dX3_allReachedWith_43 ⟨Nat.le_of_ble_eq_true rfl, Nat.le_of_ble_eq_true rfl⟩) (fun r6 u6 H locs hp6 hW => ?_)
        have hf6_0 : (∀ b : Nat, P 2 0 o5 = some b → ((r6.toInt : Int) = 1 ∧ ((J 4 5) * (hv (hv I [] [(6, 5)] u1) [] [(6, 6), (6, 7)] u2) 2 1 o5).toInt ≤ ((hv (hv I [] [(6, 5)] u1) [] [(6, 6), (6, 7)] u2) 6 7 b).toInt) ∨ ((r6.toInt : Int) = 0 ∧ ((hv (hv I [] [(6, 5)] u1) [] [(6, 6), (6, 7)] u2) 6 7 b).toInt < ((J 4 5) * (hv (hv I [] [(6, 5)] u1) [] [(6, 6), (6, 7)] u2) 2 1 o5).toInt)) := hp6
        clear hp6
        have hW : WB g A s.heap H locs (J, L, (hv (hv I [] [(6, 5)] u1) [] [(6, 6), (6, 7)] u2), P, E, N) (sgX g ++ dy) := hW
        have hB := hf6_0
        obtain ⟨h91, -, -, h94, -⟩ := hhm m3.toNatClampNeg (by have h8 := tcl m3; omega)
        rw [← ho5] at h91 h94
        have h95 : (hv (hv I [] [(6, 5)] u1) [] [(6, 6), (6, 7)] u2) 2 1 o5 = J 109 m3.toNatClampNeg := h94
        have hb9 := hB _ h91
        rw [h95] at hb9
        refine lv_if_ne (tgt := 51) hx hb dX3_allReachedWith_46 (by decide) (fun c7 => ?_) (fun c7 => ?_)
        · have c7 : ¬ r6.toInt = 0 := tne rfl kp0 c7
          obtain ⟨x8, e8⟩ : ∃ y : Int32, y = m3 + 1 := ⟨_, rfl⟩
          refine lv_iinc (v := x8) (lv' := [(3, .int x8), (0, .ref (g.2.2.1 4)), (1, .int a0), (2, .int a1)]) hx hb dX3_allReachedWith_51 hl (k := 0) rfl (by rw [e8]; rfl) (by decide) rfl (fun ls hl => ?_)
          try have t8 : x8.toInt = m3.toInt + 1 := tadd e8 rfl kp1 (by omega)
          refine lv_goto (tgt := 17) hx hb dX3_allReachedWith_54 (by decide) ?_
          refine ih x8 H locs ls ?_ ?_ ?_ hW (lv_sub hl [0, 1, 2, 3] rfl)
          · show ((J 22 2).toInt - x8.toInt).toNat < n
            omega
          · show 0 ≤ x8.toInt ∧ x8.toInt ≤ (J 22 2).toInt
            first | omega | exact hi | assumption
          · show ∀ h : Nat, (h : Int) < x8.toInt → (J 4 5 * J 109 h).toInt ≤ ((hv (hv I [] [(6, 5)] u1) [] [(6, 6), (6, 7)] u2) 6 7 (elt E P 20 (J 108 h).toNatClampNeg)).toInt
            exact hal_s hal (by omega) (by omega) (hb9.elim (fun q => q.2) (fun q => absurd q.1 (by omega)))
        · have c7 : r6.toInt = 0 := teq rfl kp0 c7
          refine lv_iconst (v := 0) hx hb dX3_allReachedWith_49 (by decide) ?_
          have hWr : WB g A s.heap H locs (J, L, (hv I [] [(6, 5), (6, 6), (6, 7)] (hv (hv I [] [(6, 5)] u1) [] [(6, 6), (6, 7)] u2)), P, E, N) (sgX g ++ dy) := by
            rw [← ag_hvE (J := I) (R := []) (F := [(6, 5), (6, 6), (6, 7)]) (ag_hv rfl rfl (ag_hv rfl rfl ag_rf))]
            exact hW
          subst hQ9
          exact end_z C hr hlocks (by decide) (hv (hv I [] [(6, 5)] u1) [] [(6, 6), (6, 7)] u2) hWr ⟨by first | exact Or.inr ((by decide)), show ∀ b : Nat, (∀ j : Nat, (j : Int) < (J 23 2).toInt → ¬ elt E P 23 j = b) → (hv (hv I [] [(6, 5)] u1) [] [(6, 6), (6, 7)] u2) 6 5 b = I 6 5 b from by exact fun b hbs => hA0 b hbs, show ∃ x : Nat → Int32, SND x (J 101) (fun k => I 6 1 (elt E P 20 k)) (fun k => I 6 3 (elt E P 20 k)) (EXS (J 125) (J 126) a0 (J 23 2).toInt.toNat) (CUTP (J 105) (J 106) (J 107) (J 21 2).toInt (-1 : Int32).toInt) a1 (J 4 4) (J 20 2).toInt ∧ (((0 : Int) = 1 ∧ HALC x (J 109) (J 108) (J 4 5) (J 22 2).toInt) ∨ ((0 : Int) = 0 ∧ ¬ HALC x (J 109) (J 108) (J 4 5) (J 22 2).toInt)) from by exact ⟨_, snd_mo hS (rsp_e hRS (by omega) (fun k hk hno => z_i (hex0 k hk hno))), Or.inr ⟨rfl, fun q => absurd (q m3.toNatClampNeg (by have h8 := tcl m3; omega)) (Int.not_le.mpr (hb9.elim (fun z => absurd z.1 (by omega)) (fun z => z.2)))⟩⟩⟩ dX3_allReachedWith_50
  -- into the loop
  refine loop17 (((J 22 2).toInt - (0 : Int32).toInt).toNat + 1) 0 H locs ls ?_ ?_ ?_ hW (lv_sub hl [0, 1, 2, 3] rfl)
  · exact Nat.lt_succ_self _
  · show 0 ≤ (0 : Int32).toInt ∧ (0 : Int32).toInt ≤ (J 22 2).toInt
    try rw [kp0]
    first | omega | exact hi | assumption
  · show ∀ h : Nat, (h : Int) < (0 : Int32).toInt → (J 4 5 * J 109 h).toInt ≤ ((hv (hv I [] [(6, 5)] u1) [] [(6, 6), (6, 7)] u2) 6 7 (elt E P 20 (J 108 h).toNatClampNeg)).toInt
    try rw [kp0]
    intro h hh; exfalso; omega

set_option maxHeartbeats 4000000 in
set_option maxRecDepth 100000 in
theorem c_X3_fewestBoosts_b (l : Launch) (g : gG) (J : Nat → Nat → Int32) (L : Nat → Nat → Int64) (I : Nat → Nat → Nat → Int32) (P : Nat → Nat → Nat → Option Nat) (E : Nat → Option Nat) (N : Nat → Nat) (dy : List (Nat × Nat)) (sz : Nat) (a0 : Int32) (hwf : WXF g J P E N dy) (hnt : NTR (P 6 0) (elt E P 20) (J 101) (J 20 2).toInt) (hij : INJ E P 20 (J 20 2).toInt) (hcu : CUR (P 1 0) (I 1 1) (I 1 2) (elt E P 21) (elt E P 20) (J 105) (J 106) (J 107) (J 21 2).toInt (J 20 2).toInt) (hhm : HMR (P 2 0) (I 2 1) (I 2 2) (I 2 3) (elt E P 22) (elt E P 20) (J 108) (J 109) (J 110) (J 111) (J 22 2).toInt (J 20 2).toInt) (hch : CHN I E P (J 125) (J 126) (J 23 2).toInt (J 20 2).toInt) (hc9 : (J 23 2).toInt ≤ 9) (hex : ∀ k : Nat, (k : Int) < (J 20 2).toInt → (I 6 5 (elt E P 20 k)).toInt = 0) : Met l yX3_fewestBoosts (WS yX3_fewestBoosts cX3_fewestBoosts 7 (some .int)) (RM (7) 0 0) (PC g [.ref (g.2.2.1 4), .int a0] ((J, L, I, P, E, N), sgX g ++ dy) sz) (va_Qi (fun (r : Int32) (u : (Nat → Nat → Nat → Int32)) => (∀ b : Nat, (∀ j : Nat, (j : Int) < (J 23 2).toInt → ¬ elt E P 23 j = b) → u 6 5 b = I 6 5 b) ∧ (∀ j : Nat, (j : Int) < (J 23 2).toInt → (u 6 5 (elt E P 23 j)).toInt = 0) ∧ (∃ x : Nat → Int32, SND x (J 101) (fun k => I 6 1 (elt E P 20 k)) (fun k => I 6 3 (elt E P 20 k)) (EXS (J 125) (J 126) (Int32.ofNat (2 ^ (J 23 2).toInt.toNat - 1)) (J 23 2).toInt.toNat) (CUTP (J 105) (J 106) (J 107) (J 21 2).toInt (-1 : Int32).toInt) a0 (J 4 4) (J 20 2).toInt ∧ ((¬ HALC x (J 109) (J 108) (J 4 5) (J 22 2).toInt ∧ (r.toInt : Int) = -9) ∨ (HALC x (J 109) (J 108) (J 4 5) (J 22 2).toInt ∧ (r.toInt : Int) = (BSF (fun t => (∃ x : Nat → Int32, SND x (J 101) (fun k => I 6 1 (elt E P 20 k)) (fun k => I 6 3 (elt E P 20 k)) (EXS (J 125) (J 126) (Int32.ofNat t) (J 23 2).toInt.toNat) (CUTP (J 105) (J 106) (J 107) (J 21 2).toInt (-1 : Int32).toInt) a0 (J 4 4) (J 20 2).toInt ∧ HALC x (J 109) (J 108) (J 4 5) (J 22 2).toInt)) (fun t => CB t 32) (fun t => (t : Int)) (2 ^ (J 23 2).toInt.toNat)).1)))) (fun u t => at_ g (FR g ((J, L, I, P, E, N), sgX g ++ dy) sz) ((J, L, (hv I [] [(6, 5), (6, 6), (6, 7)] u), P, E, N), sgX g ++ dy) t) (FR g ((J, L, I, P, E, N), sgX g ++ dy) sz)) 0 0 (FR g ((J, L, I, P, E, N), sgX g ++ dy) sz) := by
  refine ent (by decide +kernel) (Nat.le_of_ble_eq_true rfl) ?_
  intro p e s m below meth c ls hsz C hW hr hlocks hname hl
  generalize FR g ((J, L, I, P, E, N), sgX g ++ dy) sz = A at C hW ⊢
  generalize hQ9 : (va_Qi (fun (r : Int32) (u : (Nat → Nat → Nat → Int32)) => (∀ b : Nat, (∀ j : Nat, (j : Int) < (J 23 2).toInt → ¬ elt E P 23 j = b) → u 6 5 b = I 6 5 b) ∧ (∀ j : Nat, (j : Int) < (J 23 2).toInt → (u 6 5 (elt E P 23 j)).toInt = 0) ∧ (∃ x : Nat → Int32, SND x (J 101) (fun k => I 6 1 (elt E P 20 k)) (fun k => I 6 3 (elt E P 20 k)) (EXS (J 125) (J 126) (Int32.ofNat (2 ^ (J 23 2).toInt.toNat - 1)) (J 23 2).toInt.toNat) (CUTP (J 105) (J 106) (J 107) (J 21 2).toInt (-1 : Int32).toInt) a0 (J 4 4) (J 20 2).toInt ∧ ((¬ HALC x (J 109) (J 108) (J 4 5) (J 22 2).toInt ∧ (r.toInt : Int) = -9) ∨ (HALC x (J 109) (J 108) (J 4 5) (J 22 2).toInt ∧ (r.toInt : Int) = (BSF (fun t => (∃ x : Nat → Int32, SND x (J 101) (fun k => I 6 1 (elt E P 20 k)) (fun k => I 6 3 (elt E P 20 k)) (EXS (J 125) (J 126) (Int32.ofNat t) (J 23 2).toInt.toNat) (CUTP (J 105) (J 106) (J 107) (J 21 2).toInt (-1 : Int32).toInt) a0 (J 4 4) (J 20 2).toInt ∧ HALC x (J 109) (J 108) (J 4 5) (J 22 2).toInt)) (fun t => CB t 32) (fun t => (t : Int)) (2 ^ (J 23 2).toInt.toNat)).1)))) (fun u t => at_ g A ((J, L, (hv I [] [(6, 5), (6, 6), (6, 7)] u), P, E, N), sgX g ++ dy) t) A) = Q9
  have hx := C.1.1
  have hb := C.1.2.1
  have hts := C.1.2.2.2.2
  have hl : lv_has ls 7 [(0, .ref (g.2.2.1 4)), (1, .int a0)] := hl
  obtain ⟨H, hH⟩ : ∃ H : Heap, H = s.heap := ⟨_, rfl⟩
  obtain ⟨locs, hlocs⟩ : ∃ q : List Loc, q = [] := ⟨_, rfl⟩
  have hW : WB g A s.heap H locs (J, L, I, P, E, N) (sgX g ++ dy) := by rw [hH, hlocs]; exact hW
  obtain ⟨h20a, h20b, -⟩ := hwf.1.1
  obtain ⟨h22a, h22b, -⟩ := hwf.1.2.2.1
  obtain ⟨h23a, h23b, -⟩ := hwf.1.2.2.2
  refine start_ hH hlocs ?_
  refine lv_iconst (v := 1) hx hb dX3_fewestBoosts_0 (by decide) ?_
  refine lv_aload_n hx hb dX3_fewestBoosts_1 rfl (lv_at hl 0 rfl) ?_
  refine rg_4_3 C hW (mx_ rfl) tw_238 dX3_fewestBoosts_2 ?_
  refine ci_ C hW (runV (x := (g.2.2.1 23)) (As := []) (rest := [.int 1]) (T := ((J, L, I, P, E, N), sgX g ++ dy)) C hW (c_Jx4a65c_size_8abf5 l g J L I P E N dy H.size 23 rfl ) mi_Jx4a65c_size_8abf5 tw_467 (recv_ (T := ((J, L, I, P, E, N), sgX g ++ dy)) C hW (mx_ rfl) (cel_list rfl) rfl) ⟨rfl, rfl, Nat.le_of_ble_eq_true rfl, Nat.le_of_ble_eq_true rfl⟩ rfl hl.1 rfl (Nat.le_of_ble_eq_true rfl) dX3_fewestBoosts_5 ⟨Nat.le_of_ble_eq_true rfl, Nat.le_of_ble_eq_true rfl⟩) (fun r1 u1 H locs hp1 hW => ?_)
  have hc1 : ((r1 = J 23 2)) := hp1
  clear hp1
  have hr1 : r1 = J 23 2 := hc1
  refine lv_as (J 23 2) hr1 ?_
  have hW : WB g A s.heap H locs (J, L, I, P, E, N) (sgX g ++ dy) := hW
  refine lv_bipush (v := 9) hx hb dX3_fewestBoosts_8 (by decide) ?_
  refine va_mmin hx hb (C.1.2.2.1.trans hl.1.symm) C.1.2.2.2.1 (hts _ tw_886) (hts _ tw_225) (hts _ tw_74) (hts _ tw_226) (Nat.le_of_ble_eq_true rfl) (Nat.le_of_ble_eq_true rfl) (Nat.le_of_ble_eq_true rfl) (Nat.le_of_ble_eq_true rfl) dX3_fewestBoosts_10 ?_
  refine lv_topi (fun x2 (e2 : x2 = if 9 < (J 23 2) then 9 else (J 23 2)) => ?_)
  have t2 : x2.toInt = min ((J 23 2).toInt) 9 := tmin e2 rfl kp9
  refine lv_ishl hx hb dX3_fewestBoosts_13 ?_
  refine lv_topi (fun x3 (e3 : x3 = 1 <<< (x2 &&& 31)) => ?_)
  have t3 := i32r x3
  have hP2 := shl_p (n := (J 23 2).toInt.toNat) (by omega) (by omega) e3
  have hpw9 := pow9 (c := (J 23 2).toInt.toNat) (by omega)
  have hpw1 := powp (J 23 2).toInt.toNat
  refine lv_iconst (v := 1) hx hb dX3_fewestBoosts_14 (by decide) ?_
  refine lv_isub hx hb dX3_fewestBoosts_15 ?_
  refine lv_topi (fun x4 (e4 : x4 = x3 - 1) => ?_)
  try have t4 : x4.toInt = x3.toInt - 1 := tsub e4 rfl kp1 (by omega)
  refine lv_istore_n (lv' := [(2, .int x4), (0, .ref (g.2.2.1 4)), (1, .int a0)]) hx hb dX3_fewestBoosts_16 rfl hl (by decide) rfl (fun ls hl => ?_)
  have hA9 : x4 = (Int32.ofNat (2 ^ (J 23 2).toInt.toNat - 1)) := (i_ofn (by omega)).trans (congrArg Int32.ofNat (by omega))
  refine lv_bipush (v := 20) hx hb dX3_fewestBoosts_17 (by decide) ?_
  refine lv_istore_n (lv' := [(3, .int 20), (2, .int x4), (0, .ref (g.2.2.1 4)), (1, .int a0)]) hx hb dX3_fewestBoosts_19 rfl hl (by decide) rfl (fun ls hl => ?_)
  refine lv_bipush (v := (-9)) hx hb dX3_fewestBoosts_20 (by decide) ?_
  refine lv_istore (lv' := [(4, .int (-9)), (3, .int 20), (2, .int x4), (0, .ref (g.2.2.1 4)), (1, .int a0)]) hx hb dX3_fewestBoosts_22 hl (by decide) rfl (fun ls hl => ?_)
  refine lv_aload_n hx hb dX3_fewestBoosts_24 rfl (lv_at hl 3 rfl) ?_
  refine lv_iload_n hx hb dX3_fewestBoosts_25 rfl (lv_at hl 2 rfl) ?_
  refine lv_iload_n hx hb dX3_fewestBoosts_26 rfl (lv_at hl 4 rfl) ?_
  refine ci_ C hW (runV (x := (g.2.2.1 4)) (As := [.int x4, .int a0]) (rest := []) (T := ((J, L, I, P, E, N), sgX g ++ dy)) C hW (c_X3_allReachedWith_b l g J L I P E N dy H.size x4 a0 hwf (show NTR (P 6 0) (elt E P 20) (J 101) (J 20 2).toInt from hnt) (show INJ E P 20 (J 20 2).toInt from hij) (show CUR (P 1 0) (I 1 1) (I 1 2) (elt E P 21) (elt E P 20) (J 105) (J 106) (J 107) (J 21 2).toInt (J 20 2).toInt from hcu) (show HMR (P 2 0) (I 2 1) (I 2 2) (I 2 3) (elt E P 22) (elt E P 20) (J 108) (J 109) (J 110) (J 111) (J 22 2).toInt (J 20 2).toInt from hhm) (show CHN I E P (J 125) (J 126) (J 23 2).toInt (J 20 2).toInt from hch) (show (J 23 2).toInt ≤ 9 from hc9) (show ∀ k : Nat, (k : Int) < (J 20 2).toInt → (∀ j : Nat, (j : Int) < (J 23 2).toInt → ¬ (J 125 j).toInt = (k : Int)) → (I 6 5 (elt E P 20 k)).toInt = 0 from fun k hk _ => hex k hk)) mi_X3_allReachedWith tw_887 (recv_ (T := ((J, L, I, P, E, N), sgX g ++ dy)) C hW (mx_ rfl) rfl rfl) ⟨rfl, rfl, Nat.le_of_ble_eq_true rfl, Nat.le_of_ble_eq_true rfl⟩ rfl hl.1 rfl (Nat.le_of_ble_eq_true rfl) dX3_fewestBoosts_27 ⟨Nat.le_of_ble_eq_true rfl, Nat.le_of_ble_eq_true rfl⟩) (fun r5 u5 H locs hp5 hW => ?_)
  obtain ⟨hc5, hf5_0, hf5_1⟩ : ((r5.toInt = 1) ∨ (r5.toInt = 0)) ∧ (∀ b : Nat, (∀ j : Nat, (j : Int) < (J 23 2).toInt → ¬ elt E P 23 j = b) → u5 6 5 b = I 6 5 b) ∧ (∃ x : Nat → Int32, SND x (J 101) (fun k => I 6 1 (elt E P 20 k)) (fun k => I 6 3 (elt E P 20 k)) (EXS (J 125) (J 126) x4 (J 23 2).toInt.toNat) (CUTP (J 105) (J 106) (J 107) (J 21 2).toInt (-1 : Int32).toInt) a0 (J 4 4) (J 20 2).toInt ∧ (((r5.toInt : Int) = 1 ∧ HALC x (J 109) (J 108) (J 4 5) (J 22 2).toInt) ∨ ((r5.toInt : Int) = 0 ∧ ¬ HALC x (J 109) (J 108) (J 4 5) (J 22 2).toInt))) := hp5
  try simp only [kn1] at hc5
  have hW : WB g A s.heap H locs (J, L, (hv I [] [(6, 5), (6, 6), (6, 7)] u5), P, E, N) (sgX g ++ dy) := hW
  have hA0 := hf5_0
  have hR0 := hf5_1
  obtain ⟨xA, hxA, hxR⟩ := hR0
  rw [hA9] at hxA
  refine lv_if_eq (tgt := 78) hx hb dX3_fewestBoosts_30 (by decide) (fun c6 => ?_) (fun c6 => ?_)
  · have c6 : r5.toInt = 0 := teq rfl kp0 c6
    refine lv_aload_n hx hb dX3_fewestBoosts_78 rfl (lv_at hl 3 rfl) ?_
    refine lv_iconst (v := 0) hx hb dX3_fewestBoosts_79 (by decide) ?_
    refine cv_ C hW (runV (x := (g.2.2.1 4)) (As := [.int 0]) (rest := []) (T := ((J, L, (hv I [] [(6, 5), (6, 6), (6, 7)] u5), P, E, N), sgX g ++ dy)) C hW (c_X3_raise_b l g J L (hv I [] [(6, 5), (6, 6), (6, 7)] u5) P E N dy H.size 0 hwf (show INJ E P 20 (J 20 2).toInt from hij) (show CHN (hv I [] [(6, 5), (6, 6), (6, 7)] u5) E P (J 125) (J 126) (J 23 2).toInt (J 20 2).toInt from hch) (show (J 23 2).toInt ≤ 9 from hc9)) mi_X3_raise tw_891 (recv_ (T := ((J, L, (hv I [] [(6, 5), (6, 6), (6, 7)] u5), P, E, N), sgX g ++ dy)) C hW (mx_ rfl) rfl rfl) ⟨rfl, rfl, Nat.le_of_ble_eq_true rfl, Nat.le_of_ble_eq_true rfl⟩ rfl hl.1 rfl (Nat.le_of_ble_eq_true rfl) dX3_fewestBoosts_80 ⟨Nat.le_of_ble_eq_true rfl, Nat.le_of_ble_eq_true rfl⟩) (fun u7 H locs hp7 hW => ?_)
    obtain ⟨hf7_0, hf7_1, hf7_2⟩ : (∀ b : Nat, (∀ j : Nat, (j : Int) < (J 23 2).toInt → ¬ elt E P 23 j = b) → u7 6 5 b = (hv I [] [(6, 5), (6, 6), (6, 7)] u5) 6 5 b) ∧ (0 = 0 → ∀ j : Nat, (j : Int) < (J 23 2).toInt → (u7 6 5 (elt E P 23 j)).toInt = 0) ∧ (RSP (fun k => u7 6 5 (elt E P 20 k)) (fun k => (hv I [] [(6, 5), (6, 6), (6, 7)] u5) 6 5 (elt E P 20 k)) (J 125) (J 126) 0 (J 23 2).toInt (J 20 2).toInt) := hp7
    have hW : WB g A s.heap H locs (J, L, (hv (hv I [] [(6, 5), (6, 6), (6, 7)] u5) [] [(6, 5)] u7), P, E, N) (sgX g ++ dy) := hW
    have hB0 := hf7_0
    have hB1 := hf7_1
    refine lv_iload hx hb dX3_fewestBoosts_83 (lv_at hl 0 rfl) ?_
    have hWr : WB g A s.heap H locs (J, L, (hv I [] [(6, 5), (6, 6), (6, 7)] (hv (hv I [] [(6, 5), (6, 6), (6, 7)] u5) [] [(6, 5)] u7)), P, E, N) (sgX g ++ dy) := by
      rw [← ag_hvE (J := I) (R := []) (F := [(6, 5), (6, 6), (6, 7)]) (ag_hv rfl rfl (ag_hv rfl rfl ag_rf))]
      exact hW
    subst hQ9
    exact end_i C hr hlocks (hv (hv I [] [(6, 5), (6, 6), (6, 7)] u5) [] [(6, 5)] u7) hWr ⟨show ∀ b : Nat, (∀ j : Nat, (j : Int) < (J 23 2).toInt → ¬ elt E P 23 j = b) → (hv (hv I [] [(6, 5), (6, 6), (6, 7)] u5) [] [(6, 5)] u7) 6 5 b = I 6 5 b from by first | exact fun b hbs => (hB0 b hbs).trans (hfr b hbs) | exact fun b hbs => (hB0 b hbs).trans (hA0 b hbs), show ∀ j : Nat, (j : Int) < (J 23 2).toInt → ((hv (hv I [] [(6, 5), (6, 6), (6, 7)] u5) [] [(6, 5)] u7) 6 5 (elt E P 23 j)).toInt = 0 from by exact hB1 (by first | rfl | exact kp0), show ∃ x : Nat → Int32, SND x (J 101) (fun k => I 6 1 (elt E P 20 k)) (fun k => I 6 3 (elt E P 20 k)) (EXS (J 125) (J 126) (Int32.ofNat (2 ^ (J 23 2).toInt.toNat - 1)) (J 23 2).toInt.toNat) (CUTP (J 105) (J 106) (J 107) (J 21 2).toInt (-1 : Int32).toInt) a0 (J 4 4) (J 20 2).toInt ∧ ((¬ HALC x (J 109) (J 108) (J 4 5) (J 22 2).toInt ∧ ((-9) : Int) = -9) ∨ (HALC x (J 109) (J 108) (J 4 5) (J 22 2).toInt ∧ ((-9) : Int) = (BSF (fun t => (∃ x : Nat → Int32, SND x (J 101) (fun k => I 6 1 (elt E P 20 k)) (fun k => I 6 3 (elt E P 20 k)) (EXS (J 125) (J 126) (Int32.ofNat t) (J 23 2).toInt.toNat) (CUTP (J 105) (J 106) (J 107) (J 21 2).toInt (-1 : Int32).toInt) a0 (J 4 4) (J 20 2).toInt ∧ HALC x (J 109) (J 108) (J 4 5) (J 22 2).toInt)) (fun t => CB t 32) (fun t => (t : Int)) (2 ^ (J 23 2).toInt.toNat)).1)) from by exact ⟨xA, hxA, Or.inl ⟨hxR.elim (fun z => absurd z.1 (by omega)) (fun z => z.2), rfl⟩⟩⟩ dX3_fewestBoosts_85
  · have c6 : ¬ r5.toInt = 0 := tne rfl kp0 c6
    refine lv_iconst (v := 0) hx hb dX3_fewestBoosts_33 (by decide) ?_
    refine lv_istore (lv' := [(5, .int 0), (4, .int (-9)), (3, .int 20), (2, .int x4), (0, .ref (g.2.2.1 4)), (1, .int a0)]) hx hb dX3_fewestBoosts_34 hl (by decide) rfl (fun ls hl => ?_)
    have loop36 : ∀ (n : Nat) (m3 : Int32) (m4 : Int32) (m5 : Int32) (Kl8 : Nat → Nat → Nat → Int32) (H : Heap) (locs : List Loc) (ls : Array Slot), (1048577 - m5.toInt).toNat < n → 0 ≤ m5.toInt ∧ m5.toInt ≤ (((2 ^ (J 23 2).toInt.toNat) : Nat) : Int) → (∀ b : Nat, (∀ j : Nat, (j : Int) < (J 23 2).toInt → ¬ elt E P 23 j = b) → Kl8 6 5 b = I 6 5 b) → (CBS m4 m3 (BSF (fun t => (∃ x : Nat → Int32, SND x (J 101) (fun k => I 6 1 (elt E P 20 k)) (fun k => I 6 3 (elt E P 20 k)) (EXS (J 125) (J 126) (Int32.ofNat t) (J 23 2).toInt.toNat) (CUTP (J 105) (J 106) (J 107) (J 21 2).toInt (-1 : Int32).toInt) a0 (J 4 4) (J 20 2).toInt ∧ HALC x (J 109) (J 108) (J 4 5) (J 22 2).toInt)) (fun t => CB t 32) (fun t => (t : Int)) m5.toInt.toNat)) → WB g A s.heap H locs (J, L, (hv (hv I [] [(6, 5), (6, 6), (6, 7)] u5) [] [(6, 5), (6, 6), (6, 7)] Kl8), P, E, N) (sgX g ++ dy) → lv_has ls 7 [(5, .int m5), (4, .int m4), (3, .int m3), (2, .int x4), (0, .ref (g.2.2.1 4)), (1, .int a0)] → W p l e (RM (7) 0 0) s m ([.ref (g.2.2.1 4), .int a0] : List Value).toArray below meth c H locs 0 0 (MQ below Q9 ([.ref (g.2.2.1 4), .int a0] : List Value).toArray s 0 0 A) (F0 m 36 ls []) := by
      intro n
      induction n with
      | zero => intro m3 m4 m5 Kl8 H locs ls hmeas; exact absurd hmeas (Nat.not_lt_zero _)
      | succ n ih =>
        intro m3 m4 m5 Kl8 H locs ls hmeas hi hfr hbs hW hl
        refine lv_iload hx hb dX3_fewestBoosts_36 (lv_at hl 0 rfl) ?_
        refine lv_iload_n hx hb dX3_fewestBoosts_38 rfl (lv_at hl 3 rfl) ?_
        refine lv_icmp_gt (tgt := 78) hx hb dX3_fewestBoosts_39 (by decide) (fun c9 => ?_) (fun c9 => ?_)
        · have c9 : x4.toInt < m5.toInt := tlt rfl rfl c9
          refine lv_aload_n hx hb dX3_fewestBoosts_78 rfl (lv_at hl 4 rfl) ?_
          refine lv_iconst (v := 0) hx hb dX3_fewestBoosts_79 (by decide) ?_
          refine cv_ C hW (runV (x := (g.2.2.1 4)) (As := [.int 0]) (rest := []) (T := ((J, L, (hv (hv I [] [(6, 5), (6, 6), (6, 7)] u5) [] [(6, 5), (6, 6), (6, 7)] Kl8), P, E, N), sgX g ++ dy)) C hW (c_X3_raise_b l g J L (hv (hv I [] [(6, 5), (6, 6), (6, 7)] u5) [] [(6, 5), (6, 6), (6, 7)] Kl8) P E N dy H.size 0 hwf (show INJ E P 20 (J 20 2).toInt from hij) (show CHN (hv (hv I [] [(6, 5), (6, 6), (6, 7)] u5) [] [(6, 5), (6, 6), (6, 7)] Kl8) E P (J 125) (J 126) (J 23 2).toInt (J 20 2).toInt from hch) (show (J 23 2).toInt ≤ 9 from hc9)) mi_X3_raise tw_891 (recv_ (T := ((J, L, (hv (hv I [] [(6, 5), (6, 6), (6, 7)] u5) [] [(6, 5), (6, 6), (6, 7)] Kl8), P, E, N), sgX g ++ dy)) C hW (mx_ rfl) rfl rfl) ⟨rfl, rfl, Nat.le_of_ble_eq_true rfl, Nat.le_of_ble_eq_true rfl⟩ rfl hl.1 rfl (Nat.le_of_ble_eq_true rfl) dX3_fewestBoosts_80 ⟨Nat.le_of_ble_eq_true rfl, Nat.le_of_ble_eq_true rfl⟩) (fun u10 H locs hp10 hW => ?_)
          obtain ⟨hf10_0, hf10_1, hf10_2⟩ : (∀ b : Nat, (∀ j : Nat, (j : Int) < (J 23 2).toInt → ¬ elt E P 23 j = b) → u10 6 5 b = (hv (hv I [] [(6, 5), (6, 6), (6, 7)] u5) [] [(6, 5), (6, 6), (6, 7)] Kl8) 6 5 b) ∧ (0 = 0 → ∀ j : Nat, (j : Int) < (J 23 2).toInt → (u10 6 5 (elt E P 23 j)).toInt = 0) ∧ (RSP (fun k => u10 6 5 (elt E P 20 k)) (fun k => (hv (hv I [] [(6, 5), (6, 6), (6, 7)] u5) [] [(6, 5), (6, 6), (6, 7)] Kl8) 6 5 (elt E P 20 k)) (J 125) (J 126) 0 (J 23 2).toInt (J 20 2).toInt) := hp10
          have hW : WB g A s.heap H locs (J, L, (hv (hv (hv I [] [(6, 5), (6, 6), (6, 7)] u5) [] [(6, 5), (6, 6), (6, 7)] Kl8) [] [(6, 5)] u10), P, E, N) (sgX g ++ dy) := hW
          have hB0 := hf10_0
          have hB1 := hf10_1
          refine lv_iload hx hb dX3_fewestBoosts_83 (lv_at hl 1 rfl) ?_
          have hWr : WB g A s.heap H locs (J, L, (hv I [] [(6, 5), (6, 6), (6, 7)] (hv (hv (hv I [] [(6, 5), (6, 6), (6, 7)] u5) [] [(6, 5), (6, 6), (6, 7)] Kl8) [] [(6, 5)] u10)), P, E, N) (sgX g ++ dy) := by
            rw [← ag_hvE (J := I) (R := []) (F := [(6, 5), (6, 6), (6, 7)]) (ag_hv rfl rfl (ag_hv rfl rfl (ag_hv rfl rfl ag_rf)))]
            exact hW
          subst hQ9
          exact end_i C hr hlocks (hv (hv (hv I [] [(6, 5), (6, 6), (6, 7)] u5) [] [(6, 5), (6, 6), (6, 7)] Kl8) [] [(6, 5)] u10) hWr ⟨show ∀ b : Nat, (∀ j : Nat, (j : Int) < (J 23 2).toInt → ¬ elt E P 23 j = b) → (hv (hv (hv I [] [(6, 5), (6, 6), (6, 7)] u5) [] [(6, 5), (6, 6), (6, 7)] Kl8) [] [(6, 5)] u10) 6 5 b = I 6 5 b from by first | exact fun b hbs => (hB0 b hbs).trans (hfr b hbs) | exact fun b hbs => (hB0 b hbs).trans (hA0 b hbs), show ∀ j : Nat, (j : Int) < (J 23 2).toInt → ((hv (hv (hv I [] [(6, 5), (6, 6), (6, 7)] u5) [] [(6, 5), (6, 6), (6, 7)] Kl8) [] [(6, 5)] u10) 6 5 (elt E P 23 j)).toInt = 0 from by exact hB1 (by first | rfl | exact kp0), show ∃ x : Nat → Int32, SND x (J 101) (fun k => I 6 1 (elt E P 20 k)) (fun k => I 6 3 (elt E P 20 k)) (EXS (J 125) (J 126) (Int32.ofNat (2 ^ (J 23 2).toInt.toNat - 1)) (J 23 2).toInt.toNat) (CUTP (J 105) (J 106) (J 107) (J 21 2).toInt (-1 : Int32).toInt) a0 (J 4 4) (J 20 2).toInt ∧ ((¬ HALC x (J 109) (J 108) (J 4 5) (J 22 2).toInt ∧ (m4.toInt : Int) = -9) ∨ (HALC x (J 109) (J 108) (J 4 5) (J 22 2).toInt ∧ (m4.toInt : Int) = (BSF (fun t => (∃ x : Nat → Int32, SND x (J 101) (fun k => I 6 1 (elt E P 20 k)) (fun k => I 6 3 (elt E P 20 k)) (EXS (J 125) (J 126) (Int32.ofNat t) (J 23 2).toInt.toNat) (CUTP (J 105) (J 106) (J 107) (J 21 2).toInt (-1 : Int32).toInt) a0 (J 4 4) (J 20 2).toInt ∧ HALC x (J 109) (J 108) (J 4 5) (J 22 2).toInt)) (fun t => CB t 32) (fun t => (t : Int)) (2 ^ (J 23 2).toInt.toNat)).1)) from by (have e9 : m5.toInt.toNat = (2 ^ (J 23 2).toInt.toNat) := (by omega); rw [e9] at hbs; exact ⟨xA, hxA, Or.inr ⟨hxR.elim (fun z => z.2) (fun z => absurd z.1 (by omega)), cbs_r hbs⟩⟩)⟩ dX3_fewestBoosts_85
        · have c9 : m5.toInt ≤ x4.toInt := tnlt rfl rfl c9
          refine lv_iload hx hb dX3_fewestBoosts_42 (lv_at hl 0 rfl) ?_
          refine ci_ C hW (runS (As := [.int m5]) (rest := []) (T := ((J, L, (hv (hv I [] [(6, 5), (6, 6), (6, 7)] u5) [] [(6, 5), (6, 6), (6, 7)] Kl8), P, E, N), sgX g ++ dy)) C hW (c_J6_bitCount_0f7a4_e l g J L (hv (hv I [] [(6, 5), (6, 6), (6, 7)] u5) [] [(6, 5), (6, 6), (6, 7)] Kl8) P E N dy H.size m5 ) mi_J6_bitCount_0f7a4 tw_864 ⟨rfl, rfl, Nat.le_of_ble_eq_true rfl, Nat.le_of_ble_eq_true rfl⟩ rfl hl.1 rfl (Nat.le_of_ble_eq_true rfl) dX3_fewestBoosts_44 ⟨Nat.le_of_ble_eq_true rfl, Nat.le_of_ble_eq_true rfl⟩) (fun r11 u11 H locs hp11 hW => ?_)
          have hf11_0 : (r11.toInt = ((CB (tN m5) 32 : Nat) : Int)) := hp11
          clear hp11
          have hW : WB g A s.heap H locs (J, L, (hv (hv I [] [(6, 5), (6, 6), (6, 7)] u5) [] [(6, 5), (6, 6), (6, 7)] Kl8), P, E, N) (sgX g ++ dy) := hW
          have hZ := hf11_0
          refine lv_istore (lv' := [(6, .int r11), (5, .int m5), (4, .int m4), (3, .int m3), (2, .int x4), (0, .ref (g.2.2.1 4)), (1, .int a0)]) hx hb dX3_fewestBoosts_47 hl (by decide) rfl (fun ls hl => ?_)
          rw [tN_tn (a := m5) (by omega)] at hZ
          have hZ9 := cb9 (t := m5.toInt.toNat) (by omega)
          refine lv_iload hx hb dX3_fewestBoosts_49 (lv_at hl 0 rfl) ?_
          refine lv_iload_n hx hb dX3_fewestBoosts_51 rfl (lv_at hl 3 rfl) ?_
          refine lv_icmp_ge (tgt := 72) hx hb dX3_fewestBoosts_52 (by decide) (fun c12 => ?_) (fun c12 => ?_)
          · have c12 : m3.toInt ≤ r11.toInt := tle rfl rfl c12
            obtain ⟨x13, e13⟩ : ∃ y : Int32, y = m5 + 1 := ⟨_, rfl⟩
            refine lv_iinc (v := x13) (lv' := [(5, .int x13), (6, .int r11), (4, .int m4), (3, .int m3), (2, .int x4), (0, .ref (g.2.2.1 4)), (1, .int a0)]) hx hb dX3_fewestBoosts_72 hl (k := 1) rfl (by rw [e13]; rfl) (by decide) rfl (fun ls hl => ?_)
            try have t13 : x13.toInt = m5.toInt + 1 := tadd e13 rfl kp1 (by omega)
            refine lv_goto (tgt := 36) hx hb dX3_fewestBoosts_75 (by decide) ?_
            have hWl : WB g A s.heap H locs (J, L, (hv (hv I [] [(6, 5), (6, 6), (6, 7)] u5) [] [(6, 5), (6, 6), (6, 7)] (hv (hv I [] [(6, 5), (6, 6), (6, 7)] u5) [] [(6, 5), (6, 6), (6, 7)] Kl8)), P, E, N) (sgX g ++ dy) := by
              rw [← ag_hvE (J := (hv I [] [(6, 5), (6, 6), (6, 7)] u5)) (R := []) (F := [(6, 5), (6, 6), (6, 7)]) (ag_hv rfl rfl ag_rf)]
              exact hW
            refine ih m3 m4 x13 (hv (hv I [] [(6, 5), (6, 6), (6, 7)] u5) [] [(6, 5), (6, 6), (6, 7)] Kl8) H locs ls ?_ ?_ ?_ ?_ hWl (lv_sub hl [0, 2, 3, 4, 5, 6] rfl)
            · show (1048577 - x13.toInt).toNat < n
              omega
            · show 0 ≤ x13.toInt ∧ x13.toInt ≤ (((2 ^ (J 23 2).toInt.toNat) : Nat) : Int)
              first | omega | exact hi | assumption
            · show ∀ b : Nat, (∀ j : Nat, (j : Int) < (J 23 2).toInt → ¬ elt E P 23 j = b) → (hv (hv I [] [(6, 5), (6, 6), (6, 7)] u5) [] [(6, 5), (6, 6), (6, 7)] Kl8) 6 5 b = I 6 5 b
              first | exact fun b hbs => (hA1 b hbs).trans (hfr b hbs) | exact hfr
            · show CBS m4 m3 (BSF (fun t => (∃ x : Nat → Int32, SND x (J 101) (fun k => I 6 1 (elt E P 20 k)) (fun k => I 6 3 (elt E P 20 k)) (EXS (J 125) (J 126) (Int32.ofNat t) (J 23 2).toInt.toNat) (CUTP (J 105) (J 106) (J 107) (J 21 2).toInt (-1 : Int32).toInt) a0 (J 4 4) (J 20 2).toInt ∧ HALC x (J 109) (J 108) (J 4 5) (J 22 2).toInt)) (fun t => CB t 32) (fun t => (t : Int)) x13.toInt.toNat)
              (have e9 : (x13).toInt.toNat = m5.toInt.toNat + 1 := (by omega); rw [e9]; exact cbs_n hbs hZ (show CB m5.toInt.toNat 32 < 20 by omega) (Or.inr (by omega)))
          · have c12 : r11.toInt < m3.toInt := tnle rfl rfl c12
            refine lv_aload_n hx hb dX3_fewestBoosts_55 rfl (lv_at hl 5 rfl) ?_
            refine lv_iload hx hb dX3_fewestBoosts_56 (lv_at hl 1 rfl) ?_
            refine lv_iload_n hx hb dX3_fewestBoosts_58 rfl (lv_at hl 6 rfl) ?_
            refine ci_ C hW (runV (x := (g.2.2.1 4)) (As := [.int m5, .int a0]) (rest := []) (T := ((J, L, (hv (hv I [] [(6, 5), (6, 6), (6, 7)] u5) [] [(6, 5), (6, 6), (6, 7)] Kl8), P, E, N), sgX g ++ dy)) C hW (c_X3_allReachedWith_b l g J L (hv (hv I [] [(6, 5), (6, 6), (6, 7)] u5) [] [(6, 5), (6, 6), (6, 7)] Kl8) P E N dy H.size m5 a0 hwf (show NTR (P 6 0) (elt E P 20) (J 101) (J 20 2).toInt from hnt) (show INJ E P 20 (J 20 2).toInt from hij) (show CUR (P 1 0) ((hv (hv I [] [(6, 5), (6, 6), (6, 7)] u5) [] [(6, 5), (6, 6), (6, 7)] Kl8) 1 1) ((hv (hv I [] [(6, 5), (6, 6), (6, 7)] u5) [] [(6, 5), (6, 6), (6, 7)] Kl8) 1 2) (elt E P 21) (elt E P 20) (J 105) (J 106) (J 107) (J 21 2).toInt (J 20 2).toInt from hcu) (show HMR (P 2 0) ((hv (hv I [] [(6, 5), (6, 6), (6, 7)] u5) [] [(6, 5), (6, 6), (6, 7)] Kl8) 2 1) ((hv (hv I [] [(6, 5), (6, 6), (6, 7)] u5) [] [(6, 5), (6, 6), (6, 7)] Kl8) 2 2) ((hv (hv I [] [(6, 5), (6, 6), (6, 7)] u5) [] [(6, 5), (6, 6), (6, 7)] Kl8) 2 3) (elt E P 22) (elt E P 20) (J 108) (J 109) (J 110) (J 111) (J 22 2).toInt (J 20 2).toInt from hhm) (show CHN (hv (hv I [] [(6, 5), (6, 6), (6, 7)] u5) [] [(6, 5), (6, 6), (6, 7)] Kl8) E P (J 125) (J 126) (J 23 2).toInt (J 20 2).toInt from hch) (show (J 23 2).toInt ≤ 9 from hc9) (show ∀ k : Nat, (k : Int) < (J 20 2).toInt → (∀ j : Nat, (j : Int) < (J 23 2).toInt → ¬ (J 125 j).toInt = (k : Int)) → ((hv (hv I [] [(6, 5), (6, 6), (6, 7)] u5) [] [(6, 5), (6, 6), (6, 7)] Kl8) 6 5 (elt E P 20 k)).toInt = 0 from fun k hk hno => (congrArg Int32.toInt (hfr _ (chn_not hch hij hk hno))).trans (hex k hk))) mi_X3_allReachedWith tw_887 (recv_ (T := ((J, L, (hv (hv I [] [(6, 5), (6, 6), (6, 7)] u5) [] [(6, 5), (6, 6), (6, 7)] Kl8), P, E, N), sgX g ++ dy)) C hW (mx_ rfl) rfl rfl) ⟨rfl, rfl, Nat.le_of_ble_eq_true rfl, Nat.le_of_ble_eq_true rfl⟩ rfl hl.1 rfl (Nat.le_of_ble_eq_true rfl) dX3_fewestBoosts_59 ⟨Nat.le_of_ble_eq_true rfl, Nat.le_of_ble_eq_true rfl⟩) (fun r14 u14 H locs hp14 hW => ?_)
            obtain ⟨hc14, hf14_0, hf14_1⟩ : ((r14.toInt = 1) ∨ (r14.toInt = 0)) ∧ (∀ b : Nat, (∀ j : Nat, (j : Int) < (J 23 2).toInt → ¬ elt E P 23 j = b) → u14 6 5 b = (hv (hv I [] [(6, 5), (6, 6), (6, 7)] u5) [] [(6, 5), (6, 6), (6, 7)] Kl8) 6 5 b) ∧ (∃ x : Nat → Int32, SND x (J 101) (fun k => (hv (hv I [] [(6, 5), (6, 6), (6, 7)] u5) [] [(6, 5), (6, 6), (6, 7)] Kl8) 6 1 (elt E P 20 k)) (fun k => (hv (hv I [] [(6, 5), (6, 6), (6, 7)] u5) [] [(6, 5), (6, 6), (6, 7)] Kl8) 6 3 (elt E P 20 k)) (EXS (J 125) (J 126) m5 (J 23 2).toInt.toNat) (CUTP (J 105) (J 106) (J 107) (J 21 2).toInt (-1 : Int32).toInt) a0 (J 4 4) (J 20 2).toInt ∧ (((r14.toInt : Int) = 1 ∧ HALC x (J 109) (J 108) (J 4 5) (J 22 2).toInt) ∨ ((r14.toInt : Int) = 0 ∧ ¬ HALC x (J 109) (J 108) (J 4 5) (J 22 2).toInt))) := hp14
            try simp only [kn1] at hc14
            have hW : WB g A s.heap H locs (J, L, (hv (hv (hv I [] [(6, 5), (6, 6), (6, 7)] u5) [] [(6, 5), (6, 6), (6, 7)] Kl8) [] [(6, 5), (6, 6), (6, 7)] u14), P, E, N) (sgX g ++ dy) := hW
            have hA1 := hf14_0
            have hR1 := hf14_1
            refine lv_if_eq (tgt := 72) hx hb dX3_fewestBoosts_62 (by decide) (fun c15 => ?_) (fun c15 => ?_)
            · have c15 : r14.toInt = 0 := teq rfl kp0 c15
              obtain ⟨x16, e16⟩ : ∃ y : Int32, y = m5 + 1 := ⟨_, rfl⟩
              refine lv_iinc (v := x16) (lv' := [(5, .int x16), (6, .int r11), (4, .int m4), (3, .int m3), (2, .int x4), (0, .ref (g.2.2.1 4)), (1, .int a0)]) hx hb dX3_fewestBoosts_72 hl (k := 1) rfl (by rw [e16]; rfl) (by decide) rfl (fun ls hl => ?_)
              try have t16 : x16.toInt = m5.toInt + 1 := tadd e16 rfl kp1 (by omega)
              refine lv_goto (tgt := 36) hx hb dX3_fewestBoosts_75 (by decide) ?_
              have hWl : WB g A s.heap H locs (J, L, (hv (hv I [] [(6, 5), (6, 6), (6, 7)] u5) [] [(6, 5), (6, 6), (6, 7)] (hv (hv (hv I [] [(6, 5), (6, 6), (6, 7)] u5) [] [(6, 5), (6, 6), (6, 7)] Kl8) [] [(6, 5), (6, 6), (6, 7)] u14)), P, E, N) (sgX g ++ dy) := by
                rw [← ag_hvE (J := (hv I [] [(6, 5), (6, 6), (6, 7)] u5)) (R := []) (F := [(6, 5), (6, 6), (6, 7)]) (ag_hv rfl rfl (ag_hv rfl rfl ag_rf))]
                exact hW
              refine ih m3 m4 x16 (hv (hv (hv I [] [(6, 5), (6, 6), (6, 7)] u5) [] [(6, 5), (6, 6), (6, 7)] Kl8) [] [(6, 5), (6, 6), (6, 7)] u14) H locs ls ?_ ?_ ?_ ?_ hWl (lv_sub hl [0, 2, 3, 4, 5, 6] rfl)
              · show (1048577 - x16.toInt).toNat < n
                omega
              · show 0 ≤ x16.toInt ∧ x16.toInt ≤ (((2 ^ (J 23 2).toInt.toNat) : Nat) : Int)
                first | omega | exact hi | assumption
              · show ∀ b : Nat, (∀ j : Nat, (j : Int) < (J 23 2).toInt → ¬ elt E P 23 j = b) → (hv (hv (hv I [] [(6, 5), (6, 6), (6, 7)] u5) [] [(6, 5), (6, 6), (6, 7)] Kl8) [] [(6, 5), (6, 6), (6, 7)] u14) 6 5 b = I 6 5 b
                first | exact fun b hbs => (hA1 b hbs).trans (hfr b hbs) | exact hfr
              · show CBS m4 m3 (BSF (fun t => (∃ x : Nat → Int32, SND x (J 101) (fun k => I 6 1 (elt E P 20 k)) (fun k => I 6 3 (elt E P 20 k)) (EXS (J 125) (J 126) (Int32.ofNat t) (J 23 2).toInt.toNat) (CUTP (J 105) (J 106) (J 107) (J 21 2).toInt (-1 : Int32).toInt) a0 (J 4 4) (J 20 2).toInt ∧ HALC x (J 109) (J 108) (J 4 5) (J 22 2).toInt)) (fun t => CB t 32) (fun t => (t : Int)) x16.toInt.toNat)
                (have e9 : (x16).toInt.toNat = m5.toInt.toNat + 1 := (by omega); rw [e9]; exact cbs_n hbs hZ (show CB m5.toInt.toNat 32 < 20 by omega) (Or.inl (fun q => by (have q9 : (∃ x : Nat → Int32, SND x (J 101) (fun k => I 6 1 (elt E P 20 k)) (fun k => I 6 3 (elt E P 20 k)) (EXS (J 125) (J 126) (Int32.ofNat m5.toInt.toNat) (J 23 2).toInt.toNat) (CUTP (J 105) (J 106) (J 107) (J 21 2).toInt (-1 : Int32).toInt) a0 (J 4 4) (J 20 2).toInt ∧ HALC x (J 109) (J 108) (J 4 5) (J 22 2).toInt) := q; rw [← i_ofn (h := m5) (by omega)] at q9; obtain ⟨x9, s9, a9⟩ := q9; obtain ⟨x8, s8, a8⟩ := hR1; exact a8.elim (fun z => absurd z.1 (by omega)) (fun z => hal_no s8 s9 (fun k h1 h2 => ((hnt k h2).2 h1).2.2) (fun j hj => ⟨(hhm j hj).2.1, (hhm j hj).2.2.1⟩) z.2 a9)))))
            · have c15 : ¬ r14.toInt = 0 := tne rfl kp0 c15
              refine lv_iload hx hb dX3_fewestBoosts_65 (lv_at hl 0 rfl) ?_
              refine lv_istore_n (lv' := [(3, .int r11), (6, .int r11), (5, .int m5), (4, .int m4), (2, .int x4), (0, .ref (g.2.2.1 4)), (1, .int a0)]) hx hb dX3_fewestBoosts_67 rfl hl (by decide) rfl (fun ls hl => ?_)
              refine lv_iload hx hb dX3_fewestBoosts_68 (lv_at hl 2 rfl) ?_
              refine lv_istore (lv' := [(4, .int m5), (3, .int r11), (6, .int r11), (5, .int m5), (2, .int x4), (0, .ref (g.2.2.1 4)), (1, .int a0)]) hx hb dX3_fewestBoosts_70 hl (by decide) rfl (fun ls hl => ?_)
              obtain ⟨x17, e17⟩ : ∃ y : Int32, y = m5 + 1 := ⟨_, rfl⟩
              refine lv_iinc (v := x17) (lv' := [(5, .int x17), (4, .int m5), (3, .int r11), (6, .int r11), (2, .int x4), (0, .ref (g.2.2.1 4)), (1, .int a0)]) hx hb dX3_fewestBoosts_72 hl (k := 3) rfl (by rw [e17]; rfl) (by decide) rfl (fun ls hl => ?_)
              try have t17 : x17.toInt = m5.toInt + 1 := tadd e17 rfl kp1 (by omega)
              refine lv_goto (tgt := 36) hx hb dX3_fewestBoosts_75 (by decide) ?_
              have hWl : WB g A s.heap H locs (J, L, (hv (hv I [] [(6, 5), (6, 6), (6, 7)] u5) [] [(6, 5), (6, 6), (6, 7)] (hv (hv (hv I [] [(6, 5), (6, 6), (6, 7)] u5) [] [(6, 5), (6, 6), (6, 7)] Kl8) [] [(6, 5), (6, 6), (6, 7)] u14)), P, E, N) (sgX g ++ dy) := by
                rw [← ag_hvE (J := (hv I [] [(6, 5), (6, 6), (6, 7)] u5)) (R := []) (F := [(6, 5), (6, 6), (6, 7)]) (ag_hv rfl rfl (ag_hv rfl rfl ag_rf))]
                exact hW
              refine ih r11 m5 x17 (hv (hv (hv I [] [(6, 5), (6, 6), (6, 7)] u5) [] [(6, 5), (6, 6), (6, 7)] Kl8) [] [(6, 5), (6, 6), (6, 7)] u14) H locs ls ?_ ?_ ?_ ?_ hWl (lv_sub hl [0, 1, 2, 4, 5, 6] rfl)
              · show (1048577 - x17.toInt).toNat < n
                omega
              · show 0 ≤ x17.toInt ∧ x17.toInt ≤ (((2 ^ (J 23 2).toInt.toNat) : Nat) : Int)
                first | omega | exact hi | assumption
              · show ∀ b : Nat, (∀ j : Nat, (j : Int) < (J 23 2).toInt → ¬ elt E P 23 j = b) → (hv (hv (hv I [] [(6, 5), (6, 6), (6, 7)] u5) [] [(6, 5), (6, 6), (6, 7)] Kl8) [] [(6, 5), (6, 6), (6, 7)] u14) 6 5 b = I 6 5 b
                first | exact fun b hbs => (hA1 b hbs).trans (hfr b hbs) | exact hfr
              · show CBS m5 r11 (BSF (fun t => (∃ x : Nat → Int32, SND x (J 101) (fun k => I 6 1 (elt E P 20 k)) (fun k => I 6 3 (elt E P 20 k)) (EXS (J 125) (J 126) (Int32.ofNat t) (J 23 2).toInt.toNat) (CUTP (J 105) (J 106) (J 107) (J 21 2).toInt (-1 : Int32).toInt) a0 (J 4 4) (J 20 2).toInt ∧ HALC x (J 109) (J 108) (J 4 5) (J 22 2).toInt)) (fun t => CB t 32) (fun t => (t : Int)) x17.toInt.toNat)
                (have e9 : (x17).toInt.toNat = m5.toInt.toNat + 1 := (by omega); rw [e9]; exact cbs_y hbs hZ (by omega) (show CB m5.toInt.toNat 32 < 20 by omega) (by show ∃ _, _; rw [← i_ofn (h := m5) (by omega)]; exact hR1.elim (fun x q => ⟨x, q.1, q.2.elim (fun z => z.2) (fun z => absurd z.1 (by omega))⟩)) (by show ((m5.toInt.toNat : Nat) : Int) = _; omega) (by omega))
    -- into the loop
    have hWl : WB g A s.heap H locs (J, L, (hv (hv I [] [(6, 5), (6, 6), (6, 7)] u5) [] [(6, 5), (6, 6), (6, 7)] (hv I [] [(6, 5), (6, 6), (6, 7)] u5)), P, E, N) (sgX g ++ dy) := by
      rw [← ag_hvE (J := (hv I [] [(6, 5), (6, 6), (6, 7)] u5)) (R := []) (F := [(6, 5), (6, 6), (6, 7)]) ag_rf]
      exact hW
    refine loop36 ((1048577 - (0 : Int32).toInt).toNat + 1) 20 (-9) 0 (hv I [] [(6, 5), (6, 6), (6, 7)] u5) H locs ls ?_ ?_ ?_ ?_ hWl (lv_sub hl [0, 1, 2, 3, 4, 5] rfl)
    · exact Nat.lt_succ_self _
    · show 0 ≤ (0 : Int32).toInt ∧ (0 : Int32).toInt ≤ (((2 ^ (J 23 2).toInt.toNat) : Nat) : Int)
      try rw [kp20]
      try rw [kn9]
      try rw [kp0]
      (have h9 : 0 < 2 ^ (J 13 41).toInt.toNat := Nat.pow_pos (by decide); first | omega | exact ⟨by decide, by omega⟩)
    · show ∀ b : Nat, (∀ j : Nat, (j : Int) < (J 23 2).toInt → ¬ elt E P 23 j = b) → (hv I [] [(6, 5), (6, 6), (6, 7)] u5) 6 5 b = I 6 5 b
      try rw [kp20]
      try rw [kn9]
      try rw [kp0]
      exact fun b hbs => hA0 b hbs
    · show CBS ((-9) : Int32) (20 : Int32) (BSF (fun t => (∃ x : Nat → Int32, SND x (J 101) (fun k => I 6 1 (elt E P 20 k)) (fun k => I 6 3 (elt E P 20 k)) (EXS (J 125) (J 126) (Int32.ofNat t) (J 23 2).toInt.toNat) (CUTP (J 105) (J 106) (J 107) (J 21 2).toInt (-1 : Int32).toInt) a0 (J 4 4) (J 20 2).toInt ∧ HALC x (J 109) (J 108) (J 4 5) (J 22 2).toInt)) (fun t => CB t 32) (fun t => (t : Int)) (0 : Int32).toInt.toNat)
      try rw [kp20]
      try rw [kn9]
      try rw [kp0]
      exact cbs_0 (by decide) (by decide)

set_option maxHeartbeats 4000000 in
set_option maxRecDepth 100000 in
theorem c_X11_boosts_b (l : Launch) (g : gG) (J : Nat → Nat → Int32) (L : Nat → Nat → Int64) (I : Nat → Nat → Nat → Int32) (P : Nat → Nat → Nat → Option Nat) (E : Nat → Option Nat) (N : Nat → Nat) (dy : List (Nat × Nat)) (sz : Nat) (a0 : Int32) (hwf : WXF g J P E N dy) (hnt : NTR (P 6 0) (elt E P 20) (J 101) (J 20 2).toInt) (hij : INJ E P 20 (J 20 2).toInt) (hcu : CUR (P 1 0) (I 1 1) (I 1 2) (elt E P 21) (elt E P 20) (J 105) (J 106) (J 107) (J 21 2).toInt (J 20 2).toInt) (hhm : HMR (P 2 0) (I 2 1) (I 2 2) (I 2 3) (elt E P 22) (elt E P 20) (J 108) (J 109) (J 110) (J 111) (J 22 2).toInt (J 20 2).toInt) (hch : CHN I E P (J 125) (J 126) (J 23 2).toInt (J 20 2).toInt) (hc9 : (J 23 2).toInt ≤ 9) (hex : ∀ k : Nat, (k : Int) < (J 20 2).toInt → (I 6 5 (elt E P 20 k)).toInt = 0) : Met l yX11_boosts (WS yX11_boosts cX11_boosts 3 (some .int)) (RM (8) 0 0) (PC g [.ref (g.2.2.1 12), .int a0] ((J, L, I, P, E, N), sgX g ++ dy) sz) (va_Qi (fun (r : Int32) (u : (Nat → Nat → Int32) × (Nat → Nat → Nat → Int32)) => ((r.toInt = (-4) ∧ (a0.toInt < 1)) ∨ (r.toInt = (-6) ∧ (999 < a0.toInt)) ∨ (r = r ∧ (1 ≤ a0.toInt ∧ a0.toInt ≤ 999) ∧ (∃ x : Nat → Int32, SND x (J 101) (fun k => I 6 1 (elt E P 20 k)) (fun k => I 6 3 (elt E P 20 k)) (EXS (J 125) (J 126) (Int32.ofNat (2 ^ (J 23 2).toInt.toNat - 1)) (J 23 2).toInt.toNat) (CUTP (J 105) (J 106) (J 107) (J 21 2).toInt (-1 : Int32).toInt) a0 (J 4 4) (J 20 2).toInt ∧ ((¬ HALC x (J 109) (J 108) (J 4 5) (J 22 2).toInt ∧ r.toInt = -9) ∨ (HALC x (J 109) (J 108) (J 4 5) (J 22 2).toInt ∧ r.toInt = (BSF (fun t => (∃ x : Nat → Int32, SND x (J 101) (fun k => I 6 1 (elt E P 20 k)) (fun k => I 6 3 (elt E P 20 k)) (EXS (J 125) (J 126) (Int32.ofNat t) (J 23 2).toInt.toNat) (CUTP (J 105) (J 106) (J 107) (J 21 2).toInt (-1 : Int32).toInt) a0 (J 4 4) (J 20 2).toInt ∧ HALC x (J 109) (J 108) (J 4 5) (J 22 2).toInt)) (fun t => CB t 32) (fun t => (t : Int)) (2 ^ (J 23 2).toInt.toNat)).1))))) ∧ (∀ b : Nat, (I 6 5 b).toInt = 0 → (u.2 6 5 b).toInt = 0)) (fun u t => at_ g (FR g ((J, L, I, P, E, N), sgX g ++ dy) sz) (((hv J [42] [] u.1), L, (hv I [] [(6, 5), (6, 6), (6, 7)] u.2), P, E, N), sgX g ++ dy) t) (FR g ((J, L, I, P, E, N), sgX g ++ dy) sz)) 0 0 (FR g ((J, L, I, P, E, N), sgX g ++ dy) sz) := by
  refine ent (by decide +kernel) (Nat.le_of_ble_eq_true rfl) ?_
  intro p e s m below meth c ls hsz C hW hr hlocks hname hl
  generalize FR g ((J, L, I, P, E, N), sgX g ++ dy) sz = A at C hW ⊢
  generalize hQ9 : (va_Qi (fun (r : Int32) (u : (Nat → Nat → Int32) × (Nat → Nat → Nat → Int32)) => ((r.toInt = (-4) ∧ (a0.toInt < 1)) ∨ (r.toInt = (-6) ∧ (999 < a0.toInt)) ∨ (r = r ∧ (1 ≤ a0.toInt ∧ a0.toInt ≤ 999) ∧ (∃ x : Nat → Int32, SND x (J 101) (fun k => I 6 1 (elt E P 20 k)) (fun k => I 6 3 (elt E P 20 k)) (EXS (J 125) (J 126) (Int32.ofNat (2 ^ (J 23 2).toInt.toNat - 1)) (J 23 2).toInt.toNat) (CUTP (J 105) (J 106) (J 107) (J 21 2).toInt (-1 : Int32).toInt) a0 (J 4 4) (J 20 2).toInt ∧ ((¬ HALC x (J 109) (J 108) (J 4 5) (J 22 2).toInt ∧ r.toInt = -9) ∨ (HALC x (J 109) (J 108) (J 4 5) (J 22 2).toInt ∧ r.toInt = (BSF (fun t => (∃ x : Nat → Int32, SND x (J 101) (fun k => I 6 1 (elt E P 20 k)) (fun k => I 6 3 (elt E P 20 k)) (EXS (J 125) (J 126) (Int32.ofNat t) (J 23 2).toInt.toNat) (CUTP (J 105) (J 106) (J 107) (J 21 2).toInt (-1 : Int32).toInt) a0 (J 4 4) (J 20 2).toInt ∧ HALC x (J 109) (J 108) (J 4 5) (J 22 2).toInt)) (fun t => CB t 32) (fun t => (t : Int)) (2 ^ (J 23 2).toInt.toNat)).1))))) ∧ (∀ b : Nat, (I 6 5 b).toInt = 0 → (u.2 6 5 b).toInt = 0)) (fun u t => at_ g A (((hv J [42] [] u.1), L, (hv I [] [(6, 5), (6, 6), (6, 7)] u.2), P, E, N), sgX g ++ dy) t) A) = Q9
  have hx := C.1.1
  have hb := C.1.2.1
  have hts := C.1.2.2.2.2
  have hl : lv_has ls 3 [(0, .ref (g.2.2.1 12)), (1, .int a0)] := hl
  obtain ⟨H, hH⟩ : ∃ H : Heap, H = s.heap := ⟨_, rfl⟩
  obtain ⟨locs, hlocs⟩ : ∃ q : List Loc, q = [] := ⟨_, rfl⟩
  have hW : WB g A s.heap H locs (J, L, I, P, E, N) (sgX g ++ dy) := by rw [hH, hlocs]; exact hW
  refine start_ hH hlocs ?_
  refine lv_iload_n hx hb dX11_boosts_0 rfl (lv_at hl 1 rfl) ?_
  refine ci_ C hW (runS (As := [.int a0]) (rest := []) (T := ((J, L, I, P, E, N), sgX g ++ dy)) C hW (c_X11_voiceRefusal l g J L I P E N dy H.size a0 ) mi_X11_voiceRefusal tw_524 ⟨rfl, rfl, Nat.le_of_ble_eq_true rfl, Nat.le_of_ble_eq_true rfl⟩ rfl hl.1 rfl (Nat.le_of_ble_eq_true rfl) dX11_boosts_1 ⟨Nat.le_of_ble_eq_true rfl, Nat.le_of_ble_eq_true rfl⟩) (fun r1 u1 H locs hp1 hW => ?_)
  have hc1 : ((r1.toInt = (-4) ∧ (a0.toInt < 1)) ∨ (r1.toInt = (-6) ∧ (999 < a0.toInt)) ∨ (r1.toInt = 0 ∧ (1 ≤ a0.toInt ∧ a0.toInt ≤ 999))) := hp1
  clear hp1
  have hW : WB g A s.heap H locs (J, L, I, P, E, N) (sgX g ++ dy) := hW
  refine lv_istore_n (lv' := [(2, .int r1), (0, .ref (g.2.2.1 12)), (1, .int a0)]) hx hb dX11_boosts_4 rfl hl (by decide) rfl (fun ls hl => ?_)
  refine lv_iload_n hx hb dX11_boosts_5 rfl (lv_at hl 0 rfl) ?_
  refine lv_if_eq (tgt := 15) hx hb dX11_boosts_6 (by decide) (fun c2 => ?_) (fun c2 => ?_)
  · have c2 : r1.toInt = 0 := teq rfl kp0 c2
    refine lv_aload_n hx hb dX11_boosts_15 rfl (lv_at hl 1 rfl) ?_
    refine rg_12_0 C hW (mx_ rfl) tw_364 dX11_boosts_16 ?_
    refine lv_iload_n hx hb dX11_boosts_19 rfl (lv_at hl 2 rfl) ?_
    refine ci_ C hW (runV (x := (g.2.2.1 4)) (As := [.int a0]) (rest := []) (T := ((J, L, I, P, E, N), sgX g ++ dy)) C hW (c_X3_fewestBoosts_b l g J L I P E N dy H.size a0 hwf (show NTR (P 6 0) (elt E P 20) (J 101) (J 20 2).toInt from hnt) (show INJ E P 20 (J 20 2).toInt from hij) (show CUR (P 1 0) (I 1 1) (I 1 2) (elt E P 21) (elt E P 20) (J 105) (J 106) (J 107) (J 21 2).toInt (J 20 2).toInt from hcu) (show HMR (P 2 0) (I 2 1) (I 2 2) (I 2 3) (elt E P 22) (elt E P 20) (J 108) (J 109) (J 110) (J 111) (J 22 2).toInt (J 20 2).toInt from hhm) (show CHN I E P (J 125) (J 126) (J 23 2).toInt (J 20 2).toInt from hch) (show (J 23 2).toInt ≤ 9 from hc9) (show ∀ k : Nat, (k : Int) < (J 20 2).toInt → (I 6 5 (elt E P 20 k)).toInt = 0 from hex)) mi_X3_fewestBoosts tw_882 (recv_ (T := ((J, L, I, P, E, N), sgX g ++ dy)) C hW (mx_ rfl) rfl rfl) ⟨rfl, rfl, Nat.le_of_ble_eq_true rfl, Nat.le_of_ble_eq_true rfl⟩ rfl hl.1 rfl (Nat.le_of_ble_eq_true rfl) dX11_boosts_20 ⟨Nat.le_of_ble_eq_true rfl, Nat.le_of_ble_eq_true rfl⟩) (fun r3 u3 H locs hp3 hW => ?_)
    obtain ⟨hf3_0, hf3_1, hf3_2⟩ : (∀ b : Nat, (∀ j : Nat, (j : Int) < (J 23 2).toInt → ¬ elt E P 23 j = b) → u3 6 5 b = I 6 5 b) ∧ (∀ j : Nat, (j : Int) < (J 23 2).toInt → (u3 6 5 (elt E P 23 j)).toInt = 0) ∧ (∃ x : Nat → Int32, SND x (J 101) (fun k => I 6 1 (elt E P 20 k)) (fun k => I 6 3 (elt E P 20 k)) (EXS (J 125) (J 126) (Int32.ofNat (2 ^ (J 23 2).toInt.toNat - 1)) (J 23 2).toInt.toNat) (CUTP (J 105) (J 106) (J 107) (J 21 2).toInt (-1 : Int32).toInt) a0 (J 4 4) (J 20 2).toInt ∧ ((¬ HALC x (J 109) (J 108) (J 4 5) (J 22 2).toInt ∧ (r3.toInt : Int) = -9) ∨ (HALC x (J 109) (J 108) (J 4 5) (J 22 2).toInt ∧ (r3.toInt : Int) = (BSF (fun t => (∃ x : Nat → Int32, SND x (J 101) (fun k => I 6 1 (elt E P 20 k)) (fun k => I 6 3 (elt E P 20 k)) (EXS (J 125) (J 126) (Int32.ofNat t) (J 23 2).toInt.toNat) (CUTP (J 105) (J 106) (J 107) (J 21 2).toInt (-1 : Int32).toInt) a0 (J 4 4) (J 20 2).toInt ∧ HALC x (J 109) (J 108) (J 4 5) (J 22 2).toInt)) (fun t => CB t 32) (fun t => (t : Int)) (2 ^ (J 23 2).toInt.toNat)).1))) := hp3
    have hW : WB g A s.heap H locs (J, L, (hv I [] [(6, 5), (6, 6), (6, 7)] u3), P, E, N) (sgX g ++ dy) := hW
    have hB0 := hf3_0
    have hB1 := hf3_1
    have hB2 := hf3_2
    have hWr : WB g A s.heap H locs ((hv J [42] [] J), L, (hv I [] [(6, 5), (6, 6), (6, 7)] (hv I [] [(6, 5), (6, 6), (6, 7)] u3)), P, E, N) (sgX g ++ dy) := by
      rw [← ag_hvE (J := J) (R := [42]) (F := []) ag_rf]
      rw [← ag_hvE (J := I) (R := []) (F := [(6, 5), (6, 6), (6, 7)]) (ag_hv rfl rfl ag_rf)]
      exact hW
    subst hQ9
    exact end_i C hr hlocks (J, (hv I [] [(6, 5), (6, 6), (6, 7)] u3)) hWr ⟨by first | exact Or.inr (Or.inr (⟨by first | rfl | assumption, by omega, show (∃ x : Nat → Int32, SND x (J 101) (fun k => I 6 1 (elt E P 20 k)) (fun k => I 6 3 (elt E P 20 k)) (EXS (J 125) (J 126) (Int32.ofNat (2 ^ (J 23 2).toInt.toNat - 1)) (J 23 2).toInt.toNat) (CUTP (J 105) (J 106) (J 107) (J 21 2).toInt (-1 : Int32).toInt) a0 (J 4 4) (J 20 2).toInt ∧ ((¬ HALC x (J 109) (J 108) (J 4 5) (J 22 2).toInt ∧ r3.toInt = -9) ∨ (HALC x (J 109) (J 108) (J 4 5) (J 22 2).toInt ∧ r3.toInt = (BSF (fun t => (∃ x : Nat → Int32, SND x (J 101) (fun k => I 6 1 (elt E P 20 k)) (fun k => I 6 3 (elt E P 20 k)) (EXS (J 125) (J 126) (Int32.ofNat t) (J 23 2).toInt.toNat) (CUTP (J 105) (J 106) (J 107) (J 21 2).toInt (-1 : Int32).toInt) a0 (J 4 4) (J 20 2).toInt ∧ HALC x (J 109) (J 108) (J 4 5) (J 22 2).toInt)) (fun t => CB t 32) (fun t => (t : Int)) (2 ^ (J 23 2).toInt.toNat)).1))) from (by exact hB2)⟩)), show ∀ b : Nat, (I 6 5 b).toInt = 0 → ((hv I [] [(6, 5), (6, 6), (6, 7)] u3) 6 5 b).toInt = 0 from by first | exact fun b hbs => hbs | exact fun b hbs => (by by_cases q : ∃ j : Nat, (j : Int) < (J 23 2).toInt ∧ elt E P 23 j = b; obtain ⟨j, q1, q2⟩ := q; rw [← q2]; exact hB1 j q1; exact (congrArg Int32.toInt (hB0 b (fun j h1 h2 => q ⟨j, h1, h2⟩))).trans hbs)⟩ dX11_boosts_23
  · have c2 : ¬ r1.toInt = 0 := tne rfl kp0 c2
    refine lv_aload_n hx hb dX11_boosts_9 rfl (lv_at hl 1 rfl) ?_
    refine lv_iload_n hx hb dX11_boosts_10 rfl (lv_at hl 0 rfl) ?_
    refine ci_ C hW (runV (x := (g.2.2.1 12)) (As := [.int r1]) (rest := []) (T := ((J, L, I, P, E, N), sgX g ++ dy)) C hW (c_X11_refuse l g J L I P E N dy H.size r1 hwf) mi_X11_refuse tw_411 (recv_ (T := ((J, L, I, P, E, N), sgX g ++ dy)) C hW (mx_ rfl) rfl rfl) ⟨rfl, rfl, Nat.le_of_ble_eq_true rfl, Nat.le_of_ble_eq_true rfl⟩ rfl hl.1 rfl (Nat.le_of_ble_eq_true rfl) dX11_boosts_11 ⟨Nat.le_of_ble_eq_true rfl, Nat.le_of_ble_eq_true rfl⟩) (fun r4 u4 H locs hp4 hW => ?_)
    have hc4 : ((r4 = r1)) := hp4
    clear hp4
    have hr4 : r4.toInt = (r1).toInt := by rw [hc4]
    have hW : WB g A s.heap H locs ((hv J [42] [] u4), L, I, P, E, N) (sgX g ++ dy) := hW
    have hWr : WB g A s.heap H locs ((hv J [42] [] (hv J [42] [] u4)), L, (hv I [] [(6, 5), (6, 6), (6, 7)] I), P, E, N) (sgX g ++ dy) := by
      rw [← ag_hvE (J := J) (R := [42]) (F := []) (ag_hv rfl rfl ag_rf)]
      rw [← ag_hvE (J := I) (R := []) (F := [(6, 5), (6, 6), (6, 7)]) ag_rf]
      exact hW
    subst hQ9
    exact end_i C hr hlocks ((hv J [42] [] u4), I) hWr ⟨by first | exact Or.inl ⟨by omega, by omega⟩ | exact Or.inr (Or.inl ⟨by omega, by omega⟩) | (rcases hc1 with qhc1 | qhc1 | qhc1 <;> first | exact Or.inl ⟨by omega, by omega⟩ | exact Or.inr (Or.inl ⟨by omega, by omega⟩) | (exfalso; omega)), show ∀ b : Nat, (I 6 5 b).toInt = 0 → (I 6 5 b).toInt = 0 from by first | exact fun b hbs => hbs | exact fun b hbs => (by by_cases q : ∃ j : Nat, (j : Int) < (J 23 2).toInt ∧ elt E P 23 j = b; obtain ⟨j, q1, q2⟩ := q; rw [← q2]; exact hB1 j q1; exact (congrArg Int32.toInt (hB0 b (fun j h1 h2 => q ⟨j, h1, h2⟩))).trans hbs)⟩ dX11_boosts_14

set_option maxHeartbeats 4000000 in
set_option maxRecDepth 100000 in
theorem c_X11_could_b (l : Launch) (g : gG) (J : Nat → Nat → Int32) (L : Nat → Nat → Int64) (I : Nat → Nat → Nat → Int32) (P : Nat → Nat → Nat → Option Nat) (E : Nat → Option Nat) (N : Nat → Nat) (dy : List (Nat × Nat)) (sz : Nat) (a0 : Int32) (a1 : Int32) (hwf : WXF g J P E N dy) : Met l yX11_could (WS yX11_could cX11_could 5 (some .int)) (RM (8) 10 20100) (PC g [.ref (g.2.2.1 12), .int a0, .int a1] ((J, L, I, P, E, N), sgX g ++ dy) sz) (va_Qi (fun (r : Int32) (u : (Nat → Nat → Int32) × (Nat → Nat → Nat → Int32) × (Nat → Nat → Nat → Option Nat) × (Nat → Option Nat) × (Nat → Nat) × List (Nat × Nat)) => ((r.toInt = (-1) ∧ (¬ (0 ≤ a0.toInt ∧ a0.toInt < (J 20 2).toInt)) ∧ u.1 23 2 = J 23 2 ∧ u.2.1 6 4 = I 6 4 ∧ (∀ k : Nat, elt (hv1 E [23] u.2.2.2.1) (hv P [33] [] u.2.2.1) 23 k = elt E P 23 k)) ∨ (r.toInt = (-3) ∧ (0 ≤ a0.toInt ∧ a0.toInt < (J 20 2).toInt) ∧ u.1 23 2 = J 23 2 ∧ u.2.1 6 4 = I 6 4 ∧ (∀ k : Nat, elt (hv1 E [23] u.2.2.2.1) (hv P [33] [] u.2.2.1) 23 k = elt E P 23 k) ∧ 0 < (I 6 4 (elt E P 20 a0.toNatClampNeg)).toInt) ∨ (r.toInt = (-4) ∧ (0 ≤ a0.toInt ∧ a0.toInt < (J 20 2).toInt ∧ a1.toInt < 1) ∧ u.1 23 2 = J 23 2 ∧ u.2.1 6 4 = I 6 4 ∧ (∀ k : Nat, elt (hv1 E [23] u.2.2.2.1) (hv P [33] [] u.2.2.1) 23 k = elt E P 23 k) ∧ (I 6 4 (elt E P 20 a0.toNatClampNeg)).toInt ≤ 0) ∨ (r.toInt = (-6) ∧ (0 ≤ a0.toInt ∧ a0.toInt < (J 20 2).toInt ∧ 1 ≤ a1.toInt ∧ (99 < a1.toInt ∨ 9 ≤ (J 23 2).toInt)) ∧ u.1 23 2 = J 23 2 ∧ u.2.1 6 4 = I 6 4 ∧ (∀ k : Nat, elt (hv1 E [23] u.2.2.2.1) (hv P [33] [] u.2.2.1) 23 k = elt E P 23 k) ∧ (I 6 4 (elt E P 20 a0.toNatClampNeg)).toInt ≤ 0) ∨ (r.toInt = (J 23 2).toInt ∧ (0 ≤ a0.toInt ∧ a0.toInt < (J 20 2).toInt ∧ 1 ≤ a1.toInt ∧ a1.toInt ≤ 99 ∧ (J 23 2).toInt ≤ 8) ∧ (u.1 23 2).toInt = (J 23 2).toInt + 1 ∧ (I 6 4 (elt E P 20 a0.toNatClampNeg)).toInt ≤ 0 ∧ (∀ b : Nat, b ≠ elt E P 20 a0.toNatClampNeg → u.2.1 6 4 b = I 6 4 b) ∧ u.2.1 6 4 (elt E P 20 a0.toNatClampNeg) = a1 ∧ (∀ k : Nat, (k : Int) < (J 23 2).toInt → elt (hv1 E [23] u.2.2.2.1) (hv P [33] [] u.2.2.1) 23 k = elt E P 23 k) ∧ (∀ j9 : Nat, (j9 : Int) = (J 23 2).toInt → elt (hv1 E [23] u.2.2.2.1) (hv P [33] [] u.2.2.1) 23 j9 = elt E P 20 a0.toNatClampNeg))) ∧ WXF g (hv J [42] [(23, 0), (23, 2)] u.1) (hv P [33] [] u.2.2.1) (hv1 E [23] u.2.2.2.1) u.2.2.2.2.1 u.2.2.2.2.2 ∧ (∀ x ∈ dy, x ∈ u.2.2.2.2.2) ∧ (∀ x ∈ dy, u.2.2.2.2.1 x.2 = N x.2)) (fun u t => at_ g (FR g ((J, L, I, P, E, N), sgX g ++ dy) sz) ((((hv J [42] [(23, 0), (23, 2)] u.1), L, (hv I [] [(6, 4)] u.2.1), (hv P [33] [] u.2.2.1), (hv1 E [23] u.2.2.2.1), u.2.2.2.2.1), sgX g ++ u.2.2.2.2.2)) t) (FR g ((J, L, I, P, E, N), sgX g ++ dy) sz)) 10 20100 (FR g ((J, L, I, P, E, N), sgX g ++ dy) sz) := by
  refine ent (by decide +kernel) (Nat.le_of_ble_eq_true rfl) ?_
  intro p e s m below meth c ls hsz C hW hr hlocks hname hl
  generalize FR g ((J, L, I, P, E, N), sgX g ++ dy) sz = A at C hW ⊢
  generalize hQ9 : (va_Qi (fun (r : Int32) (u : (Nat → Nat → Int32) × (Nat → Nat → Nat → Int32) × (Nat → Nat → Nat → Option Nat) × (Nat → Option Nat) × (Nat → Nat) × List (Nat × Nat)) => ((r.toInt = (-1) ∧ (¬ (0 ≤ a0.toInt ∧ a0.toInt < (J 20 2).toInt)) ∧ u.1 23 2 = J 23 2 ∧ u.2.1 6 4 = I 6 4 ∧ (∀ k : Nat, elt (hv1 E [23] u.2.2.2.1) (hv P [33] [] u.2.2.1) 23 k = elt E P 23 k)) ∨ (r.toInt = (-3) ∧ (0 ≤ a0.toInt ∧ a0.toInt < (J 20 2).toInt) ∧ u.1 23 2 = J 23 2 ∧ u.2.1 6 4 = I 6 4 ∧ (∀ k : Nat, elt (hv1 E [23] u.2.2.2.1) (hv P [33] [] u.2.2.1) 23 k = elt E P 23 k) ∧ 0 < (I 6 4 (elt E P 20 a0.toNatClampNeg)).toInt) ∨ (r.toInt = (-4) ∧ (0 ≤ a0.toInt ∧ a0.toInt < (J 20 2).toInt ∧ a1.toInt < 1) ∧ u.1 23 2 = J 23 2 ∧ u.2.1 6 4 = I 6 4 ∧ (∀ k : Nat, elt (hv1 E [23] u.2.2.2.1) (hv P [33] [] u.2.2.1) 23 k = elt E P 23 k) ∧ (I 6 4 (elt E P 20 a0.toNatClampNeg)).toInt ≤ 0) ∨ (r.toInt = (-6) ∧ (0 ≤ a0.toInt ∧ a0.toInt < (J 20 2).toInt ∧ 1 ≤ a1.toInt ∧ (99 < a1.toInt ∨ 9 ≤ (J 23 2).toInt)) ∧ u.1 23 2 = J 23 2 ∧ u.2.1 6 4 = I 6 4 ∧ (∀ k : Nat, elt (hv1 E [23] u.2.2.2.1) (hv P [33] [] u.2.2.1) 23 k = elt E P 23 k) ∧ (I 6 4 (elt E P 20 a0.toNatClampNeg)).toInt ≤ 0) ∨ (r.toInt = (J 23 2).toInt ∧ (0 ≤ a0.toInt ∧ a0.toInt < (J 20 2).toInt ∧ 1 ≤ a1.toInt ∧ a1.toInt ≤ 99 ∧ (J 23 2).toInt ≤ 8) ∧ (u.1 23 2).toInt = (J 23 2).toInt + 1 ∧ (I 6 4 (elt E P 20 a0.toNatClampNeg)).toInt ≤ 0 ∧ (∀ b : Nat, b ≠ elt E P 20 a0.toNatClampNeg → u.2.1 6 4 b = I 6 4 b) ∧ u.2.1 6 4 (elt E P 20 a0.toNatClampNeg) = a1 ∧ (∀ k : Nat, (k : Int) < (J 23 2).toInt → elt (hv1 E [23] u.2.2.2.1) (hv P [33] [] u.2.2.1) 23 k = elt E P 23 k) ∧ (∀ j9 : Nat, (j9 : Int) = (J 23 2).toInt → elt (hv1 E [23] u.2.2.2.1) (hv P [33] [] u.2.2.1) 23 j9 = elt E P 20 a0.toNatClampNeg))) ∧ WXF g (hv J [42] [(23, 0), (23, 2)] u.1) (hv P [33] [] u.2.2.1) (hv1 E [23] u.2.2.2.1) u.2.2.2.2.1 u.2.2.2.2.2 ∧ (∀ x ∈ dy, x ∈ u.2.2.2.2.2) ∧ (∀ x ∈ dy, u.2.2.2.2.1 x.2 = N x.2)) (fun u t => at_ g A ((((hv J [42] [(23, 0), (23, 2)] u.1), L, (hv I [] [(6, 4)] u.2.1), (hv P [33] [] u.2.2.1), (hv1 E [23] u.2.2.2.1), u.2.2.2.2.1), sgX g ++ u.2.2.2.2.2)) t) A) = Q9
  have hx := C.1.1
  have hb := C.1.2.1
  have hts := C.1.2.2.2.2
  have hl : lv_has ls 5 [(0, .ref (g.2.2.1 12)), (1, .int a0), (2, .int a1)] := hl
  obtain ⟨H, hH⟩ : ∃ H : Heap, H = s.heap := ⟨_, rfl⟩
  obtain ⟨locs, hlocs⟩ : ∃ q : List Loc, q = [] := ⟨_, rfl⟩
  have hW : WB g A s.heap H locs (J, L, I, P, E, N) (sgX g ++ dy) := by rw [hH, hlocs]; exact hW
  refine start_ hH hlocs ?_
  refine lv_aload_n hx hb dX11_could_0 rfl (lv_at hl 0 rfl) ?_
  refine rg_12_0 C hW (mx_ rfl) tw_364 dX11_could_1 ?_
  refine lv_iload_n hx hb dX11_could_4 rfl (lv_at hl 1 rfl) ?_
  refine cq_ C hW (runV (x := (g.2.2.1 4)) (As := [.int a0]) (rest := []) (T := ((J, L, I, P, E, N), sgX g ++ dy)) C hW (c_X3_nodeOf l g J L I P E N dy H.size a0 hwf) mi_X3_nodeOf tw_463 (recv_ (T := ((J, L, I, P, E, N), sgX g ++ dy)) C hW (mx_ rfl) rfl rfl) ⟨rfl, rfl, Nat.le_of_ble_eq_true rfl, Nat.le_of_ble_eq_true rfl⟩ rfl hl.1 rfl (Nat.le_of_ble_eq_true rfl) dX11_could_5 ⟨Nat.le_of_ble_eq_true rfl, Nat.le_of_ble_eq_true rfl⟩) (fun q1 u1 H locs hp1 hW => ?_)
  have hq1 : ((q1 = none ∧ (¬ (0 ≤ a0.toInt ∧ a0.toInt < (J 20 2).toInt))) ∨ (q1 = some (elt E P 20 a0.toNatClampNeg) ∧ (0 ≤ a0.toInt ∧ a0.toInt < (J 20 2).toInt))) := hp1
  clear hp1
  have hW : WB g A s.heap H locs (J, L, I, P, E, N) (sgX g ++ dy) := hW
  rcases hq1 with ⟨rfl, hn1⟩ | ⟨rfl, hs1⟩
  · refine lv_asv (v' := .null) rfl ?_
    refine lv_astore_nN (lv' := [(3, .null), (0, .ref (g.2.2.1 12)), (1, .int a0), (2, .int a1)]) hx hb dX11_could_8 rfl hl (by decide) rfl (fun ls hl => ?_)
    refine lv_aload_nN hx hb dX11_could_9 rfl (lv_at hl 0 rfl) ?_
    refine lv_ifnonnullN hx hb dX11_could_10 ?_
    refine lv_aload_n hx hb dX11_could_13 rfl (lv_at hl 1 rfl) ?_
    refine lv_iconst (v := (-1)) hx hb dX11_could_14 (by decide) ?_
    refine ci_ C hW (runV (x := (g.2.2.1 12)) (As := [.int (-1)]) (rest := []) (T := ((J, L, I, P, E, N), sgX g ++ dy)) C hW (c_X11_refuse l g J L I P E N dy H.size (-1) hwf) mi_X11_refuse tw_411 (recv_ (T := ((J, L, I, P, E, N), sgX g ++ dy)) C hW (mx_ rfl) rfl rfl) ⟨rfl, rfl, Nat.le_of_ble_eq_true rfl, Nat.le_of_ble_eq_true rfl⟩ rfl hl.1 rfl (Nat.le_of_ble_eq_true rfl) dX11_could_15 ⟨Nat.le_of_ble_eq_true rfl, Nat.le_of_ble_eq_true rfl⟩) (fun r2 u2 H locs hp2 hW => ?_)
    have hc2 : ((r2 = (-1))) := hp2
    clear hp2
    have hr2 : r2.toInt = (-1) := by rw [hc2]; exact kn1
    have hW : WB g A s.heap H locs ((hv J [42] [] u2), L, I, P, E, N) (sgX g ++ dy) := hW
    have hJe : (hv J [42] [] u2) = hv J [42] [(23, 0), (23, 2)] (hv J [42] [] u2) := ag_hvE (J := J) (R := [42]) (F := [(23, 0), (23, 2)]) (ag_hv rfl rfl ag_rf)
    have hIe : I = hv I [] [(6, 4)] I := ag_hvE (J := I) (R := []) (F := [(6, 4)]) ag_rf
    have hPe : P = hv P [33] [] P := ag_hvE (J := P) (R := [33]) (F := []) ag_rf
    have hEe : E = hv1 E [23] E := hv1_e (R := [23]) (fun _ _ => rfl)
    have hWr : WB g A s.heap H locs (hv J [42] [(23, 0), (23, 2)] (hv J [42] [] u2), L, hv I [] [(6, 4)] I, hv P [33] [] P, hv1 E [23] E, N) (sgX g ++ dy) := by
      rw [← hJe, ← hIe, ← hPe, ← hEe]; exact hW
    have hwr : WXF g (hv J [42] [(23, 0), (23, 2)] (hv J [42] [] u2)) (hv P [33] [] P) (hv1 E [23] E) N dy := by
      rw [← hJe, ← hPe, ← hEe]; exact hwf
    refine W.widen (k := 10) (n := 20100) (Nat.le_of_ble_eq_true rfl) (Nat.le_of_ble_eq_true rfl) ?_
    subst hQ9
    exact end_i C hr hlocks ((hv J [42] [] u2), I, P, E, N, dy) hWr ⟨by first | exact Or.inl ⟨by omega, by omega, show J 23 2 = J 23 2 from by first | rfl | (rw [← ho1]; omega) | omega | (intro k; rfl), show I 6 4 = I 6 4 from by first | rfl | (rw [← ho1]; omega) | omega | (intro k; rfl), show (∀ k : Nat, elt E P 23 k = elt E P 23 k) from by first | rfl | (rw [← ho1]; omega) | omega | (intro k; rfl)⟩ | exact Or.inr (Or.inl ⟨by omega, by omega, show J 23 2 = J 23 2 from by first | rfl | (rw [← ho1]; omega) | omega | (intro k; rfl), show I 6 4 = I 6 4 from by first | rfl | (rw [← ho1]; omega) | omega | (intro k; rfl), show (∀ k : Nat, elt E P 23 k = elt E P 23 k) from by first | rfl | (rw [← ho1]; omega) | omega | (intro k; rfl), show 0 < (I 6 4 (elt E P 20 a0.toNatClampNeg)).toInt from by first | rfl | (rw [← ho1]; omega) | omega | (intro k; rfl)⟩) | exact Or.inr (Or.inr (Or.inl ⟨by omega, by omega, show J 23 2 = J 23 2 from by first | rfl | (rw [← ho1]; omega) | omega | (intro k; rfl), show I 6 4 = I 6 4 from by first | rfl | (rw [← ho1]; omega) | omega | (intro k; rfl), show (∀ k : Nat, elt E P 23 k = elt E P 23 k) from by first | rfl | (rw [← ho1]; omega) | omega | (intro k; rfl), show (I 6 4 (elt E P 20 a0.toNatClampNeg)).toInt ≤ 0 from by first | rfl | (rw [← ho1]; omega) | omega | (intro k; rfl)⟩)) | exact Or.inr (Or.inr (Or.inr (Or.inl ⟨by omega, by omega, show J 23 2 = J 23 2 from by first | rfl | (rw [← ho1]; omega) | omega | (intro k; rfl), show I 6 4 = I 6 4 from by first | rfl | (rw [← ho1]; omega) | omega | (intro k; rfl), show (∀ k : Nat, elt E P 23 k = elt E P 23 k) from by first | rfl | (rw [← ho1]; omega) | omega | (intro k; rfl), show (I 6 4 (elt E P 20 a0.toNatClampNeg)).toInt ≤ 0 from by first | rfl | (rw [← ho1]; omega) | omega | (intro k; rfl)⟩))) | exact Or.inr (Or.inr (Or.inr (Or.inr (⟨by omega, by omega, show (J 23 2).toInt = (J 23 2).toInt + 1 from by first | rfl | omega | assumption, show (I 6 4 (elt E P 20 a0.toNatClampNeg)).toInt ≤ 0 from by first | rfl | omega | assumption, show (∀ b : Nat, b ≠ elt E P 20 a0.toNatClampNeg → I 6 4 b = I 6 4 b) from by first | rfl | omega | assumption, show I 6 4 (elt E P 20 a0.toNatClampNeg) = a1 from by first | rfl | omega | assumption, show (∀ k : Nat, (k : Int) < (J 23 2).toInt → elt E P 23 k = elt E P 23 k) from by first | rfl | omega | assumption, show (∀ j9 : Nat, (j9 : Int) = (J 23 2).toInt → elt E P 23 j9 = elt E P 20 a0.toNatClampNeg) from by first | rfl | omega | assumption⟩)))), hwr, fun x hx => hx, show ∀ x ∈ dy, N x.2 = N x.2 from by exact fun _ _ => rfl⟩ dX11_could_18
  · skip
    obtain ⟨o1, ho1⟩ : ∃ z : Nat, z = elt E P 20 a0.toNatClampNeg := ⟨_, rfl⟩
    have hm1 : (6, o1) ∈ dy := by rw [ho1]; exact (lw_mem (er := 6) hwf.1.1 (show (a0.toNatClampNeg : Int) < (J 20 2).toInt from by have := tcl a0; omega))
    refine lv_asv (v' := .ref o1) (by rw [ho1]; rfl) ?_
    refine lv_astore_n (lv' := [(3, .ref o1), (0, .ref (g.2.2.1 12)), (1, .int a0), (2, .int a1)]) hx hb dX11_could_8 rfl hl (by decide) rfl (fun ls hl => ?_)
    refine lv_aload_n hx hb dX11_could_9 rfl (lv_at hl 0 rfl) ?_
    refine lv_ifnonnull (tgt := 19) hx hb dX11_could_10 (by decide) ?_
    refine lv_aload_n hx hb dX11_could_19 rfl (lv_at hl 0 rfl) ?_
    refine rg_6_4 C hW (List.mem_append_right _ hm1) tw_145 dX11_could_20 ?_
    refine lv_topi (fun x3 (e3 : x3 = I 6 4 o1) => ?_)
    have t3 : x3.toInt = (I 6 4 o1).toInt := by rw [e3]
    refine lv_if_le (tgt := 33) hx hb dX11_could_23 (by decide) (fun c4 => ?_) (fun c4 => ?_)
    · have c4 : x3.toInt ≤ 0 := tle rfl kp0 c4
      refine lv_iload_n hx hb dX11_could_33 rfl (lv_at hl 3 rfl) ?_
      refine lv_iconst (v := 1) hx hb dX11_could_34 (by decide) ?_
      refine lv_icmp_ge (tgt := 45) hx hb dX11_could_35 (by decide) (fun c5 => ?_) (fun c5 => ?_)
      · have c5 : 1 ≤ a1.toInt := tle kp1 rfl c5
        refine lv_aload_n hx hb dX11_could_45 rfl (lv_at hl 1 rfl) ?_
        refine rg_12_0 C hW (mx_ rfl) tw_364 dX11_could_46 ?_
        refine rg_4_3 C hW (mx_ rfl) tw_239 dX11_could_49 ?_
        refine ci_ C hW (runV (x := (g.2.2.1 23)) (As := []) (rest := []) (T := ((J, L, I, P, E, N), sgX g ++ dy)) C hW (c_Jx4a65c_size_8abf5 l g J L I P E N dy H.size 23 rfl ) mi_Jx4a65c_size_8abf5 tw_485 (recv_ (T := ((J, L, I, P, E, N), sgX g ++ dy)) C hW (mx_ rfl) (cel_list rfl) rfl) ⟨rfl, rfl, Nat.le_of_ble_eq_true rfl, Nat.le_of_ble_eq_true rfl⟩ rfl hl.1 rfl (Nat.le_of_ble_eq_true rfl) dX11_could_52 ⟨Nat.le_of_ble_eq_true rfl, Nat.le_of_ble_eq_true rfl⟩) (fun r6 u6 H locs hp6 hW => ?_)
        have hc6 : ((r6 = J 23 2)) := hp6
        clear hp6
        have hr6 : r6 = J 23 2 := hc6
        refine lv_as (J 23 2) hr6 ?_
        have hW : WB g A s.heap H locs (J, L, I, P, E, N) (sgX g ++ dy) := hW
        refine lv_istore (lv' := [(4, .int (J 23 2)), (3, .ref o1), (0, .ref (g.2.2.1 12)), (1, .int a0), (2, .int a1)]) hx hb dX11_could_55 hl (by decide) rfl (fun ls hl => ?_)
        refine lv_iload_n hx hb dX11_could_57 rfl (lv_at hl 4 rfl) ?_
        refine lv_bipush (v := 99) hx hb dX11_could_58 (by decide) ?_
        refine lv_icmp_gt (tgt := 70) hx hb dX11_could_60 (by decide) (fun c7 => ?_) (fun c7 => ?_)
        · have c7 : 99 < a1.toInt := tlt kp99 rfl c7
          refine lv_aload_n hx hb dX11_could_70 rfl (lv_at hl 2 rfl) ?_
          refine lv_bipush (v := (-6)) hx hb dX11_could_71 (by decide) ?_
          refine ci_ C hW (runV (x := (g.2.2.1 12)) (As := [.int (-6)]) (rest := []) (T := ((J, L, I, P, E, N), sgX g ++ dy)) C hW (c_X11_refuse l g J L I P E N dy H.size (-6) hwf) mi_X11_refuse tw_411 (recv_ (T := ((J, L, I, P, E, N), sgX g ++ dy)) C hW (mx_ rfl) rfl rfl) ⟨rfl, rfl, Nat.le_of_ble_eq_true rfl, Nat.le_of_ble_eq_true rfl⟩ rfl hl.1 rfl (Nat.le_of_ble_eq_true rfl) dX11_could_73 ⟨Nat.le_of_ble_eq_true rfl, Nat.le_of_ble_eq_true rfl⟩) (fun r8 u8 H locs hp8 hW => ?_)
          have hc8 : ((r8 = (-6))) := hp8
          clear hp8
          have hr8 : r8.toInt = (-6) := by rw [hc8]; exact kn6
          have hW : WB g A s.heap H locs ((hv J [42] [] u8), L, I, P, E, N) (sgX g ++ dy) := hW
          have hJe : (hv J [42] [] u8) = hv J [42] [(23, 0), (23, 2)] (hv J [42] [] u8) := ag_hvE (J := J) (R := [42]) (F := [(23, 0), (23, 2)]) (ag_hv rfl rfl ag_rf)
          have hIe : I = hv I [] [(6, 4)] I := ag_hvE (J := I) (R := []) (F := [(6, 4)]) ag_rf
          have hPe : P = hv P [33] [] P := ag_hvE (J := P) (R := [33]) (F := []) ag_rf
          have hEe : E = hv1 E [23] E := hv1_e (R := [23]) (fun _ _ => rfl)
          have hWr : WB g A s.heap H locs (hv J [42] [(23, 0), (23, 2)] (hv J [42] [] u8), L, hv I [] [(6, 4)] I, hv P [33] [] P, hv1 E [23] E, N) (sgX g ++ dy) := by
            rw [← hJe, ← hIe, ← hPe, ← hEe]; exact hW
          have hwr : WXF g (hv J [42] [(23, 0), (23, 2)] (hv J [42] [] u8)) (hv P [33] [] P) (hv1 E [23] E) N dy := by
            rw [← hJe, ← hPe, ← hEe]; exact hwf
          refine W.widen (k := 10) (n := 20100) (Nat.le_of_ble_eq_true rfl) (Nat.le_of_ble_eq_true rfl) ?_
          subst hQ9
          exact end_i C hr hlocks ((hv J [42] [] u8), I, P, E, N, dy) hWr ⟨by first | exact Or.inl ⟨by omega, by omega, show J 23 2 = J 23 2 from by first | rfl | (rw [← ho1]; omega) | omega | (intro k; rfl), show I 6 4 = I 6 4 from by first | rfl | (rw [← ho1]; omega) | omega | (intro k; rfl), show (∀ k : Nat, elt E P 23 k = elt E P 23 k) from by first | rfl | (rw [← ho1]; omega) | omega | (intro k; rfl)⟩ | exact Or.inr (Or.inl ⟨by omega, by omega, show J 23 2 = J 23 2 from by first | rfl | (rw [← ho1]; omega) | omega | (intro k; rfl), show I 6 4 = I 6 4 from by first | rfl | (rw [← ho1]; omega) | omega | (intro k; rfl), show (∀ k : Nat, elt E P 23 k = elt E P 23 k) from by first | rfl | (rw [← ho1]; omega) | omega | (intro k; rfl), show 0 < (I 6 4 (elt E P 20 a0.toNatClampNeg)).toInt from by first | rfl | (rw [← ho1]; omega) | omega | (intro k; rfl)⟩) | exact Or.inr (Or.inr (Or.inl ⟨by omega, by omega, show J 23 2 = J 23 2 from by first | rfl | (rw [← ho1]; omega) | omega | (intro k; rfl), show I 6 4 = I 6 4 from by first | rfl | (rw [← ho1]; omega) | omega | (intro k; rfl), show (∀ k : Nat, elt E P 23 k = elt E P 23 k) from by first | rfl | (rw [← ho1]; omega) | omega | (intro k; rfl), show (I 6 4 (elt E P 20 a0.toNatClampNeg)).toInt ≤ 0 from by first | rfl | (rw [← ho1]; omega) | omega | (intro k; rfl)⟩)) | exact Or.inr (Or.inr (Or.inr (Or.inl ⟨by omega, by omega, show J 23 2 = J 23 2 from by first | rfl | (rw [← ho1]; omega) | omega | (intro k; rfl), show I 6 4 = I 6 4 from by first | rfl | (rw [← ho1]; omega) | omega | (intro k; rfl), show (∀ k : Nat, elt E P 23 k = elt E P 23 k) from by first | rfl | (rw [← ho1]; omega) | omega | (intro k; rfl), show (I 6 4 (elt E P 20 a0.toNatClampNeg)).toInt ≤ 0 from by first | rfl | (rw [← ho1]; omega) | omega | (intro k; rfl)⟩))) | exact Or.inr (Or.inr (Or.inr (Or.inr (⟨by omega, by omega, show (J 23 2).toInt = (J 23 2).toInt + 1 from by first | rfl | omega | assumption, show (I 6 4 (elt E P 20 a0.toNatClampNeg)).toInt ≤ 0 from by first | rfl | omega | assumption, show (∀ b : Nat, b ≠ elt E P 20 a0.toNatClampNeg → I 6 4 b = I 6 4 b) from by first | rfl | omega | assumption, show I 6 4 (elt E P 20 a0.toNatClampNeg) = a1 from by first | rfl | omega | assumption, show (∀ k : Nat, (k : Int) < (J 23 2).toInt → elt E P 23 k = elt E P 23 k) from by first | rfl | omega | assumption, show (∀ j9 : Nat, (j9 : Int) = (J 23 2).toInt → elt E P 23 j9 = elt E P 20 a0.toNatClampNeg) from by first | rfl | omega | assumption⟩)))), hwr, fun x hx => hx, show ∀ x ∈ dy, N x.2 = N x.2 from by exact fun _ _ => rfl⟩ dX11_could_76
        · have c7 : a1.toInt ≤ 99 := tnlt kp99 rfl c7
          refine lv_iload hx hb dX11_could_63 (lv_at hl 0 rfl) ?_
          refine lv_bipush (v := 9) hx hb dX11_could_65 (by decide) ?_
          refine lv_icmp_lt (tgt := 77) hx hb dX11_could_67 (by decide) (fun c9 => ?_) (fun c9 => ?_)
          · have c9 : (J 23 2).toInt < 9 := tlt rfl kp9 c9
            refine lv_aload_n hx hb dX11_could_77 rfl (lv_at hl 1 rfl) ?_
            refine lv_iload_n hx hb dX11_could_78 rfl (lv_at hl 4 rfl) ?_
            refine rp_6_4 C hW (List.mem_append_right _ hm1) tw_145 dX11_could_79 (fun H locs hW => ?_)
            refine lv_aload_n hx hb dX11_could_82 rfl (lv_at hl 2 rfl) ?_
            refine rg_12_0 C hW (mx_ rfl) tw_364 dX11_could_83 ?_
            refine rg_4_3 C hW (mx_ rfl) tw_239 dX11_could_86 ?_
            refine lv_aload_n hx hb dX11_could_89 rfl (lv_at hl 1 rfl) ?_
            refine ci_ C hW (runV (x := (g.2.2.1 23)) (As := [.ref o1]) (rest := []) (T := ((J, L, (up3 I 6 4 o1 a1), P, E, N), sgX g ++ dy)) C hW (c_Jx4a65c_add_9ea2d l g J L (up3 I 6 4 o1 a1) P E N dy H.size 6 23 rfl rfl o1 hm1 hwf.1.2.2.2 (show (J 23 2).toInt ≤ 9999 from by omega)) mi_Jx4a65c_add_9ea2d tw_488 (recv_ (T := ((J, L, (up3 I 6 4 o1 a1), P, E, N), sgX g ++ dy)) C hW (mx_ rfl) (cel_list rfl) rfl) ⟨rfl, rfl, Nat.le_of_ble_eq_true rfl, Nat.le_of_ble_eq_true rfl⟩ rfl hl.1 rfl (Nat.le_of_ble_eq_true rfl) dX11_could_90 ⟨Nat.le_of_ble_eq_true rfl, Nat.le_of_ble_eq_true rfl⟩) (fun r10 u10 H locs hp10 hW => ?_)
            obtain ⟨hc10, hG10, hL10, hE10, hF10⟩ := hp10
            have hlo10 : 0 ≤ (J 23 2).toInt := (hwf.1.2.2.2).1
            have ht10 : (J 23 2 + 1).toInt = (J 23 2).toInt + 1 := tadd rfl rfl kp1 (by omega)
            have hW : WB g A s.heap H locs ((up2 (up2 J 23 0 u10.1) 23 2 (J 23 2 + 1)), L, (up3 I 6 4 o1 a1), (hv P [33] [] u10.2.1), (up1 E 23 u10.2.2.1), u10.2.2.2.1) (sgX g ++ u10.2.2.2.2) := hW
            have hwf : WXF g (up2 (up2 J 23 0 u10.1) 23 2 (J 23 2 + 1)) (hv P [33] [] u10.2.1) (up1 E 23 u10.2.2.1) u10.2.2.2.1 u10.2.2.2.2 := wxf_add23 hwf hG10 hL10
            refine lv_pop hx hb dX11_could_93 rfl ?_
            refine lv_iload hx hb dX11_could_94 (lv_at hl 0 rfl) ?_
            have hF9 : elt (up1 E 23 u10.2.2.1) (hv P [33] [] u10.2.1) 23 (J 23 2).toNatClampNeg = o1 := hF10
            have hJe : (up2 (up2 J 23 0 u10.1) 23 2 (J 23 2 + 1)) = hv J [42] [(23, 0), (23, 2)] (up2 (up2 J 23 0 u10.1) 23 2 (J 23 2 + 1)) := ag_hvE (J := J) (R := [42]) (F := [(23, 0), (23, 2)]) (ag_up (Or.inr rfl) (ag_up (Or.inr rfl) ag_rf))
            have hIe : (up3 I 6 4 o1 a1) = hv I [] [(6, 4)] (up3 I 6 4 o1 a1) := ag_hvE (J := I) (R := []) (F := [(6, 4)]) (ag_up3 (Or.inr rfl) ag_rf)
            have hPe : (hv P [33] [] u10.2.1) = hv P [33] [] (hv P [33] [] u10.2.1) := ag_hvE (J := P) (R := [33]) (F := []) (ag_hv rfl rfl ag_rf)
            have hEe : (up1 E 23 u10.2.2.1) = hv1 E [23] (up1 E 23 u10.2.2.1) := hv1_e (R := [23]) (up1_ag rfl (fun _ _ => rfl))
            have hWr : WB g A s.heap H locs (hv J [42] [(23, 0), (23, 2)] (up2 (up2 J 23 0 u10.1) 23 2 (J 23 2 + 1)), L, hv I [] [(6, 4)] (up3 I 6 4 o1 a1), hv P [33] [] (hv P [33] [] u10.2.1), hv1 E [23] (up1 E 23 u10.2.2.1), u10.2.2.2.1) (sgX g ++ u10.2.2.2.2) := by
              rw [← hJe, ← hIe, ← hPe, ← hEe]; exact hW
            have hwr : WXF g (hv J [42] [(23, 0), (23, 2)] (up2 (up2 J 23 0 u10.1) 23 2 (J 23 2 + 1))) (hv P [33] [] (hv P [33] [] u10.2.1)) (hv1 E [23] (up1 E 23 u10.2.2.1)) u10.2.2.2.1 u10.2.2.2.2 := by
              rw [← hJe, ← hPe, ← hEe]; exact hwf
            refine W.widen (k := 10) (n := 20100) (Nat.le_of_ble_eq_true rfl) (Nat.le_of_ble_eq_true rfl) ?_
            subst hQ9
            exact end_i C hr hlocks ((up2 (up2 J 23 0 u10.1) 23 2 (J 23 2 + 1)), (up3 I 6 4 o1 a1), (hv P [33] [] u10.2.1), (up1 E 23 u10.2.2.1), u10.2.2.2.1, u10.2.2.2.2) hWr ⟨by first | exact Or.inl ⟨by omega, by omega, show J 23 2 + 1 = J 23 2 from by first | rfl | (rw [← ho1]; omega) | omega | (intro k; rfl), show (up3 I 6 4 o1 a1) 6 4 = I 6 4 from by first | rfl | (rw [← ho1]; omega) | omega | (intro k; rfl), show (∀ k : Nat, elt (up1 E 23 u10.2.2.1) (hv P [33] [] u10.2.1) 23 k = elt E P 23 k) from by first | rfl | (rw [← ho1]; omega) | omega | (intro k; rfl)⟩ | exact Or.inr (Or.inl ⟨by omega, by omega, show J 23 2 + 1 = J 23 2 from by first | rfl | (rw [← ho1]; omega) | omega | (intro k; rfl), show (up3 I 6 4 o1 a1) 6 4 = I 6 4 from by first | rfl | (rw [← ho1]; omega) | omega | (intro k; rfl), show (∀ k : Nat, elt (up1 E 23 u10.2.2.1) (hv P [33] [] u10.2.1) 23 k = elt E P 23 k) from by first | rfl | (rw [← ho1]; omega) | omega | (intro k; rfl), show 0 < (I 6 4 (elt E P 20 a0.toNatClampNeg)).toInt from by first | rfl | (rw [← ho1]; omega) | omega | (intro k; rfl)⟩) | exact Or.inr (Or.inr (Or.inl ⟨by omega, by omega, show J 23 2 + 1 = J 23 2 from by first | rfl | (rw [← ho1]; omega) | omega | (intro k; rfl), show (up3 I 6 4 o1 a1) 6 4 = I 6 4 from by first | rfl | (rw [← ho1]; omega) | omega | (intro k; rfl), show (∀ k : Nat, elt (up1 E 23 u10.2.2.1) (hv P [33] [] u10.2.1) 23 k = elt E P 23 k) from by first | rfl | (rw [← ho1]; omega) | omega | (intro k; rfl), show (I 6 4 (elt E P 20 a0.toNatClampNeg)).toInt ≤ 0 from by first | rfl | (rw [← ho1]; omega) | omega | (intro k; rfl)⟩)) | exact Or.inr (Or.inr (Or.inr (Or.inl ⟨by omega, by omega, show J 23 2 + 1 = J 23 2 from by first | rfl | (rw [← ho1]; omega) | omega | (intro k; rfl), show (up3 I 6 4 o1 a1) 6 4 = I 6 4 from by first | rfl | (rw [← ho1]; omega) | omega | (intro k; rfl), show (∀ k : Nat, elt (up1 E 23 u10.2.2.1) (hv P [33] [] u10.2.1) 23 k = elt E P 23 k) from by first | rfl | (rw [← ho1]; omega) | omega | (intro k; rfl), show (I 6 4 (elt E P 20 a0.toNatClampNeg)).toInt ≤ 0 from by first | rfl | (rw [← ho1]; omega) | omega | (intro k; rfl)⟩))) | exact Or.inr (Or.inr (Or.inr (Or.inr (⟨by omega, by omega, show (J 23 2 + 1).toInt = (J 23 2).toInt + 1 from by omega, show (I 6 4 (elt E P 20 a0.toNatClampNeg)).toInt ≤ 0 from by (rw [← ho1]; omega), show (∀ b : Nat, b ≠ elt E P 20 a0.toNatClampNeg → (up3 I 6 4 o1 a1) 6 4 b = I 6 4 b) from by (rw [← ho1]; intro b hbs; exact up3_a _ _ _ _ hbs _ _), show (up3 I 6 4 o1 a1) 6 4 (elt E P 20 a0.toNatClampNeg) = a1 from by (rw [← ho1]; exact up3_s _ _ _ _ _), show (∀ k : Nat, (k : Int) < (J 23 2).toInt → elt (up1 E 23 u10.2.2.1) (hv P [33] [] u10.2.1) 23 k = elt E P 23 k) from by (intro k9 hk9; exact hE10 k9 hk9), show (∀ j9 : Nat, (j9 : Int) = (J 23 2).toInt → elt (up1 E 23 u10.2.2.1) (hv P [33] [] u10.2.1) 23 j9 = elt E P 20 a0.toNatClampNeg) from by (intro j9 hj9; have e9 : j9 = (J 23 2).toNatClampNeg := (by have h8 := tcl (J 23 2); omega); rw [e9, hF9]; exact ho1)⟩)))), hwr, fun x hx => hG10.1 x ((fun x hx => hx) x hx), show ∀ x ∈ dy, u10.2.2.2.1 x.2 = N x.2 from by exact fun x hx => (hG10.2.2 x ((fun x hx => hx) x hx)).trans ((fun _ _ => rfl) x hx)⟩ dX11_could_96
          · have c9 : 9 ≤ (J 23 2).toInt := tnlt rfl kp9 c9
            refine lv_aload_n hx hb dX11_could_70 rfl (lv_at hl 2 rfl) ?_
            refine lv_bipush (v := (-6)) hx hb dX11_could_71 (by decide) ?_
            refine ci_ C hW (runV (x := (g.2.2.1 12)) (As := [.int (-6)]) (rest := []) (T := ((J, L, I, P, E, N), sgX g ++ dy)) C hW (c_X11_refuse l g J L I P E N dy H.size (-6) hwf) mi_X11_refuse tw_411 (recv_ (T := ((J, L, I, P, E, N), sgX g ++ dy)) C hW (mx_ rfl) rfl rfl) ⟨rfl, rfl, Nat.le_of_ble_eq_true rfl, Nat.le_of_ble_eq_true rfl⟩ rfl hl.1 rfl (Nat.le_of_ble_eq_true rfl) dX11_could_73 ⟨Nat.le_of_ble_eq_true rfl, Nat.le_of_ble_eq_true rfl⟩) (fun r11 u11 H locs hp11 hW => ?_)
            have hc11 : ((r11 = (-6))) := hp11
            clear hp11
            have hr11 : r11.toInt = (-6) := by rw [hc11]; exact kn6
            have hW : WB g A s.heap H locs ((hv J [42] [] u11), L, I, P, E, N) (sgX g ++ dy) := hW
            have hJe : (hv J [42] [] u11) = hv J [42] [(23, 0), (23, 2)] (hv J [42] [] u11) := ag_hvE (J := J) (R := [42]) (F := [(23, 0), (23, 2)]) (ag_hv rfl rfl ag_rf)
            have hIe : I = hv I [] [(6, 4)] I := ag_hvE (J := I) (R := []) (F := [(6, 4)]) ag_rf
            have hPe : P = hv P [33] [] P := ag_hvE (J := P) (R := [33]) (F := []) ag_rf
            have hEe : E = hv1 E [23] E := hv1_e (R := [23]) (fun _ _ => rfl)
            have hWr : WB g A s.heap H locs (hv J [42] [(23, 0), (23, 2)] (hv J [42] [] u11), L, hv I [] [(6, 4)] I, hv P [33] [] P, hv1 E [23] E, N) (sgX g ++ dy) := by
              rw [← hJe, ← hIe, ← hPe, ← hEe]; exact hW
            have hwr : WXF g (hv J [42] [(23, 0), (23, 2)] (hv J [42] [] u11)) (hv P [33] [] P) (hv1 E [23] E) N dy := by
              rw [← hJe, ← hPe, ← hEe]; exact hwf
            refine W.widen (k := 10) (n := 20100) (Nat.le_of_ble_eq_true rfl) (Nat.le_of_ble_eq_true rfl) ?_
            subst hQ9
            exact end_i C hr hlocks ((hv J [42] [] u11), I, P, E, N, dy) hWr ⟨by first | exact Or.inl ⟨by omega, by omega, show J 23 2 = J 23 2 from by first | rfl | (rw [← ho1]; omega) | omega | (intro k; rfl), show I 6 4 = I 6 4 from by first | rfl | (rw [← ho1]; omega) | omega | (intro k; rfl), show (∀ k : Nat, elt E P 23 k = elt E P 23 k) from by first | rfl | (rw [← ho1]; omega) | omega | (intro k; rfl)⟩ | exact Or.inr (Or.inl ⟨by omega, by omega, show J 23 2 = J 23 2 from by first | rfl | (rw [← ho1]; omega) | omega | (intro k; rfl), show I 6 4 = I 6 4 from by first | rfl | (rw [← ho1]; omega) | omega | (intro k; rfl), show (∀ k : Nat, elt E P 23 k = elt E P 23 k) from by first | rfl | (rw [← ho1]; omega) | omega | (intro k; rfl), show 0 < (I 6 4 (elt E P 20 a0.toNatClampNeg)).toInt from by first | rfl | (rw [← ho1]; omega) | omega | (intro k; rfl)⟩) | exact Or.inr (Or.inr (Or.inl ⟨by omega, by omega, show J 23 2 = J 23 2 from by first | rfl | (rw [← ho1]; omega) | omega | (intro k; rfl), show I 6 4 = I 6 4 from by first | rfl | (rw [← ho1]; omega) | omega | (intro k; rfl), show (∀ k : Nat, elt E P 23 k = elt E P 23 k) from by first | rfl | (rw [← ho1]; omega) | omega | (intro k; rfl), show (I 6 4 (elt E P 20 a0.toNatClampNeg)).toInt ≤ 0 from by first | rfl | (rw [← ho1]; omega) | omega | (intro k; rfl)⟩)) | exact Or.inr (Or.inr (Or.inr (Or.inl ⟨by omega, by omega, show J 23 2 = J 23 2 from by first | rfl | (rw [← ho1]; omega) | omega | (intro k; rfl), show I 6 4 = I 6 4 from by first | rfl | (rw [← ho1]; omega) | omega | (intro k; rfl), show (∀ k : Nat, elt E P 23 k = elt E P 23 k) from by first | rfl | (rw [← ho1]; omega) | omega | (intro k; rfl), show (I 6 4 (elt E P 20 a0.toNatClampNeg)).toInt ≤ 0 from by first | rfl | (rw [← ho1]; omega) | omega | (intro k; rfl)⟩))) | exact Or.inr (Or.inr (Or.inr (Or.inr (⟨by omega, by omega, show (J 23 2).toInt = (J 23 2).toInt + 1 from by first | rfl | omega | assumption, show (I 6 4 (elt E P 20 a0.toNatClampNeg)).toInt ≤ 0 from by first | rfl | omega | assumption, show (∀ b : Nat, b ≠ elt E P 20 a0.toNatClampNeg → I 6 4 b = I 6 4 b) from by first | rfl | omega | assumption, show I 6 4 (elt E P 20 a0.toNatClampNeg) = a1 from by first | rfl | omega | assumption, show (∀ k : Nat, (k : Int) < (J 23 2).toInt → elt E P 23 k = elt E P 23 k) from by first | rfl | omega | assumption, show (∀ j9 : Nat, (j9 : Int) = (J 23 2).toInt → elt E P 23 j9 = elt E P 20 a0.toNatClampNeg) from by first | rfl | omega | assumption⟩)))), hwr, fun x hx => hx, show ∀ x ∈ dy, N x.2 = N x.2 from by exact fun _ _ => rfl⟩ dX11_could_76
      · have c5 : a1.toInt < 1 := tnle kp1 rfl c5
        refine lv_aload_n hx hb dX11_could_38 rfl (lv_at hl 1 rfl) ?_
        refine lv_bipush (v := (-4)) hx hb dX11_could_39 (by decide) ?_
        refine ci_ C hW (runV (x := (g.2.2.1 12)) (As := [.int (-4)]) (rest := []) (T := ((J, L, I, P, E, N), sgX g ++ dy)) C hW (c_X11_refuse l g J L I P E N dy H.size (-4) hwf) mi_X11_refuse tw_411 (recv_ (T := ((J, L, I, P, E, N), sgX g ++ dy)) C hW (mx_ rfl) rfl rfl) ⟨rfl, rfl, Nat.le_of_ble_eq_true rfl, Nat.le_of_ble_eq_true rfl⟩ rfl hl.1 rfl (Nat.le_of_ble_eq_true rfl) dX11_could_41 ⟨Nat.le_of_ble_eq_true rfl, Nat.le_of_ble_eq_true rfl⟩) (fun r12 u12 H locs hp12 hW => ?_)
        have hc12 : ((r12 = (-4))) := hp12
        clear hp12
        have hr12 : r12.toInt = (-4) := by rw [hc12]; exact kn4
        have hW : WB g A s.heap H locs ((hv J [42] [] u12), L, I, P, E, N) (sgX g ++ dy) := hW
        have hJe : (hv J [42] [] u12) = hv J [42] [(23, 0), (23, 2)] (hv J [42] [] u12) := ag_hvE (J := J) (R := [42]) (F := [(23, 0), (23, 2)]) (ag_hv rfl rfl ag_rf)
        have hIe : I = hv I [] [(6, 4)] I := ag_hvE (J := I) (R := []) (F := [(6, 4)]) ag_rf
        have hPe : P = hv P [33] [] P := ag_hvE (J := P) (R := [33]) (F := []) ag_rf
        have hEe : E = hv1 E [23] E := hv1_e (R := [23]) (fun _ _ => rfl)
        have hWr : WB g A s.heap H locs (hv J [42] [(23, 0), (23, 2)] (hv J [42] [] u12), L, hv I [] [(6, 4)] I, hv P [33] [] P, hv1 E [23] E, N) (sgX g ++ dy) := by
          rw [← hJe, ← hIe, ← hPe, ← hEe]; exact hW
        have hwr : WXF g (hv J [42] [(23, 0), (23, 2)] (hv J [42] [] u12)) (hv P [33] [] P) (hv1 E [23] E) N dy := by
          rw [← hJe, ← hPe, ← hEe]; exact hwf
        refine W.widen (k := 10) (n := 20100) (Nat.le_of_ble_eq_true rfl) (Nat.le_of_ble_eq_true rfl) ?_
        subst hQ9
        exact end_i C hr hlocks ((hv J [42] [] u12), I, P, E, N, dy) hWr ⟨by first | exact Or.inl ⟨by omega, by omega, show J 23 2 = J 23 2 from by first | rfl | (rw [← ho1]; omega) | omega | (intro k; rfl), show I 6 4 = I 6 4 from by first | rfl | (rw [← ho1]; omega) | omega | (intro k; rfl), show (∀ k : Nat, elt E P 23 k = elt E P 23 k) from by first | rfl | (rw [← ho1]; omega) | omega | (intro k; rfl)⟩ | exact Or.inr (Or.inl ⟨by omega, by omega, show J 23 2 = J 23 2 from by first | rfl | (rw [← ho1]; omega) | omega | (intro k; rfl), show I 6 4 = I 6 4 from by first | rfl | (rw [← ho1]; omega) | omega | (intro k; rfl), show (∀ k : Nat, elt E P 23 k = elt E P 23 k) from by first | rfl | (rw [← ho1]; omega) | omega | (intro k; rfl), show 0 < (I 6 4 (elt E P 20 a0.toNatClampNeg)).toInt from by first | rfl | (rw [← ho1]; omega) | omega | (intro k; rfl)⟩) | exact Or.inr (Or.inr (Or.inl ⟨by omega, by omega, show J 23 2 = J 23 2 from by first | rfl | (rw [← ho1]; omega) | omega | (intro k; rfl), show I 6 4 = I 6 4 from by first | rfl | (rw [← ho1]; omega) | omega | (intro k; rfl), show (∀ k : Nat, elt E P 23 k = elt E P 23 k) from by first | rfl | (rw [← ho1]; omega) | omega | (intro k; rfl), show (I 6 4 (elt E P 20 a0.toNatClampNeg)).toInt ≤ 0 from by first | rfl | (rw [← ho1]; omega) | omega | (intro k; rfl)⟩)) | exact Or.inr (Or.inr (Or.inr (Or.inl ⟨by omega, by omega, show J 23 2 = J 23 2 from by first | rfl | (rw [← ho1]; omega) | omega | (intro k; rfl), show I 6 4 = I 6 4 from by first | rfl | (rw [← ho1]; omega) | omega | (intro k; rfl), show (∀ k : Nat, elt E P 23 k = elt E P 23 k) from by first | rfl | (rw [← ho1]; omega) | omega | (intro k; rfl), show (I 6 4 (elt E P 20 a0.toNatClampNeg)).toInt ≤ 0 from by first | rfl | (rw [← ho1]; omega) | omega | (intro k; rfl)⟩))) | exact Or.inr (Or.inr (Or.inr (Or.inr (⟨by omega, by omega, show (J 23 2).toInt = (J 23 2).toInt + 1 from by first | rfl | omega | assumption, show (I 6 4 (elt E P 20 a0.toNatClampNeg)).toInt ≤ 0 from by first | rfl | omega | assumption, show (∀ b : Nat, b ≠ elt E P 20 a0.toNatClampNeg → I 6 4 b = I 6 4 b) from by first | rfl | omega | assumption, show I 6 4 (elt E P 20 a0.toNatClampNeg) = a1 from by first | rfl | omega | assumption, show (∀ k : Nat, (k : Int) < (J 23 2).toInt → elt E P 23 k = elt E P 23 k) from by first | rfl | omega | assumption, show (∀ j9 : Nat, (j9 : Int) = (J 23 2).toInt → elt E P 23 j9 = elt E P 20 a0.toNatClampNeg) from by first | rfl | omega | assumption⟩)))), hwr, fun x hx => hx, show ∀ x ∈ dy, N x.2 = N x.2 from by exact fun _ _ => rfl⟩ dX11_could_44
    · have c4 : 0 < x3.toInt := tnle rfl kp0 c4
      refine lv_aload_n hx hb dX11_could_26 rfl (lv_at hl 1 rfl) ?_
      refine lv_bipush (v := (-3)) hx hb dX11_could_27 (by decide) ?_
      refine ci_ C hW (runV (x := (g.2.2.1 12)) (As := [.int (-3)]) (rest := []) (T := ((J, L, I, P, E, N), sgX g ++ dy)) C hW (c_X11_refuse l g J L I P E N dy H.size (-3) hwf) mi_X11_refuse tw_411 (recv_ (T := ((J, L, I, P, E, N), sgX g ++ dy)) C hW (mx_ rfl) rfl rfl) ⟨rfl, rfl, Nat.le_of_ble_eq_true rfl, Nat.le_of_ble_eq_true rfl⟩ rfl hl.1 rfl (Nat.le_of_ble_eq_true rfl) dX11_could_29 ⟨Nat.le_of_ble_eq_true rfl, Nat.le_of_ble_eq_true rfl⟩) (fun r13 u13 H locs hp13 hW => ?_)
      have hc13 : ((r13 = (-3))) := hp13
      clear hp13
      have hr13 : r13.toInt = (-3) := by rw [hc13]; exact kn3
      have hW : WB g A s.heap H locs ((hv J [42] [] u13), L, I, P, E, N) (sgX g ++ dy) := hW
      have hJe : (hv J [42] [] u13) = hv J [42] [(23, 0), (23, 2)] (hv J [42] [] u13) := ag_hvE (J := J) (R := [42]) (F := [(23, 0), (23, 2)]) (ag_hv rfl rfl ag_rf)
      have hIe : I = hv I [] [(6, 4)] I := ag_hvE (J := I) (R := []) (F := [(6, 4)]) ag_rf
      have hPe : P = hv P [33] [] P := ag_hvE (J := P) (R := [33]) (F := []) ag_rf
      have hEe : E = hv1 E [23] E := hv1_e (R := [23]) (fun _ _ => rfl)
      have hWr : WB g A s.heap H locs (hv J [42] [(23, 0), (23, 2)] (hv J [42] [] u13), L, hv I [] [(6, 4)] I, hv P [33] [] P, hv1 E [23] E, N) (sgX g ++ dy) := by
        rw [← hJe, ← hIe, ← hPe, ← hEe]; exact hW
      have hwr : WXF g (hv J [42] [(23, 0), (23, 2)] (hv J [42] [] u13)) (hv P [33] [] P) (hv1 E [23] E) N dy := by
        rw [← hJe, ← hPe, ← hEe]; exact hwf
      refine W.widen (k := 10) (n := 20100) (Nat.le_of_ble_eq_true rfl) (Nat.le_of_ble_eq_true rfl) ?_
      subst hQ9
      exact end_i C hr hlocks ((hv J [42] [] u13), I, P, E, N, dy) hWr ⟨by first | exact Or.inl ⟨by omega, by omega, show J 23 2 = J 23 2 from by first | rfl | (rw [← ho1]; omega) | omega | (intro k; rfl), show I 6 4 = I 6 4 from by first | rfl | (rw [← ho1]; omega) | omega | (intro k; rfl), show (∀ k : Nat, elt E P 23 k = elt E P 23 k) from by first | rfl | (rw [← ho1]; omega) | omega | (intro k; rfl)⟩ | exact Or.inr (Or.inl ⟨by omega, by omega, show J 23 2 = J 23 2 from by first | rfl | (rw [← ho1]; omega) | omega | (intro k; rfl), show I 6 4 = I 6 4 from by first | rfl | (rw [← ho1]; omega) | omega | (intro k; rfl), show (∀ k : Nat, elt E P 23 k = elt E P 23 k) from by first | rfl | (rw [← ho1]; omega) | omega | (intro k; rfl), show 0 < (I 6 4 (elt E P 20 a0.toNatClampNeg)).toInt from by first | rfl | (rw [← ho1]; omega) | omega | (intro k; rfl)⟩) | exact Or.inr (Or.inr (Or.inl ⟨by omega, by omega, show J 23 2 = J 23 2 from by first | rfl | (rw [← ho1]; omega) | omega | (intro k; rfl), show I 6 4 = I 6 4 from by first | rfl | (rw [← ho1]; omega) | omega | (intro k; rfl), show (∀ k : Nat, elt E P 23 k = elt E P 23 k) from by first | rfl | (rw [← ho1]; omega) | omega | (intro k; rfl), show (I 6 4 (elt E P 20 a0.toNatClampNeg)).toInt ≤ 0 from by first | rfl | (rw [← ho1]; omega) | omega | (intro k; rfl)⟩)) | exact Or.inr (Or.inr (Or.inr (Or.inl ⟨by omega, by omega, show J 23 2 = J 23 2 from by first | rfl | (rw [← ho1]; omega) | omega | (intro k; rfl), show I 6 4 = I 6 4 from by first | rfl | (rw [← ho1]; omega) | omega | (intro k; rfl), show (∀ k : Nat, elt E P 23 k = elt E P 23 k) from by first | rfl | (rw [← ho1]; omega) | omega | (intro k; rfl), show (I 6 4 (elt E P 20 a0.toNatClampNeg)).toInt ≤ 0 from by first | rfl | (rw [← ho1]; omega) | omega | (intro k; rfl)⟩))) | exact Or.inr (Or.inr (Or.inr (Or.inr (⟨by omega, by omega, show (J 23 2).toInt = (J 23 2).toInt + 1 from by first | rfl | omega | assumption, show (I 6 4 (elt E P 20 a0.toNatClampNeg)).toInt ≤ 0 from by first | rfl | omega | assumption, show (∀ b : Nat, b ≠ elt E P 20 a0.toNatClampNeg → I 6 4 b = I 6 4 b) from by first | rfl | omega | assumption, show I 6 4 (elt E P 20 a0.toNatClampNeg) = a1 from by first | rfl | omega | assumption, show (∀ k : Nat, (k : Int) < (J 23 2).toInt → elt E P 23 k = elt E P 23 k) from by first | rfl | omega | assumption, show (∀ j9 : Nat, (j9 : Int) = (J 23 2).toInt → elt E P 23 j9 = elt E P 20 a0.toNatClampNeg) from by first | rfl | omega | assumption⟩)))), hwr, fun x hx => hx, show ∀ x ∈ dy, N x.2 = N x.2 from by exact fun _ _ => rfl⟩ dX11_could_32
