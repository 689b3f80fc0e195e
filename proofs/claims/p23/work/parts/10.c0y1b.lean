set_option maxHeartbeats 4000000 in
set_option maxRecDepth 100000 in
theorem c_J7_fill_d0a16_e (l : Launch) (g : gG) (J : Nat → Nat → Int32) (L : Nat → Nat → Int64) (I : Nat → Nat → Nat → Int32) (P : Nat → Nat → Nat → Option Nat) (E : Nat → Option Nat) (N : Nat → Nat) (dy : List (Nat × Nat)) (sz : Nat) (a1 : Int64)  : Met l yJ7_fill_d0a16 (WS yJ7_fill_d0a16 cJ7_fill_d0a16 5 none) (RM (1) 0 0) (PC g [.ref (g.2.2.1 47), .long a1] ((J, L, I, P, E, N), sgX g ++ dy) sz) (va_Qv (fun (u : (Nat → Nat → Int64)) => (∀ k : Nat, k < 24 → u 47 k = a1)) (fun u t => at_ g (FR g ((J, L, I, P, E, N), sgX g ++ dy) sz) ((J, (hv L [47] [] u), I, P, E, N), sgX g ++ dy) t) (FR g ((J, L, I, P, E, N), sgX g ++ dy) sz)) 0 0 (FR g ((J, L, I, P, E, N), sgX g ++ dy) sz) := by
  refine ent (by decide +kernel) (Nat.le_of_ble_eq_true rfl) ?_
  intro p e s m below meth c ls hsz C hW hr hlocks hname hl
  generalize FR g ((J, L, I, P, E, N), sgX g ++ dy) sz = A at C hW ⊢
  generalize hQ9 : (va_Qv (fun (u : (Nat → Nat → Int64)) => (∀ k : Nat, k < 24 → u 47 k = a1)) (fun u t => at_ g A ((J, (hv L [47] [] u), I, P, E, N), sgX g ++ dy) t) A) = Q9
  have hx := C.1.1
  have hb := C.1.2.1
  have hts := C.1.2.2.2.2
  have hl : lv_has ls 5 [(0, .ref (g.2.2.1 47)), (1, .long a1)] := hl
  obtain ⟨H, hH⟩ : ∃ H : Heap, H = s.heap := ⟨_, rfl⟩
  obtain ⟨locs, hlocs⟩ : ∃ q : List Loc, q = [] := ⟨_, rfl⟩
  have hW : WB g A s.heap H locs (J, L, I, P, E, N) (sgX g ++ dy) := by rw [hH, hlocs]; exact hW
  refine start_ hH hlocs ?_
  refine lv_iconst (v := 0) hx hb dJ7_fill_d0a16_0 (by decide) ?_
  refine lv_istore_n (lv' := [(3, .int 0), (0, .ref (g.2.2.1 47)), (1, .long a1)]) hx hb dJ7_fill_d0a16_1 rfl hl (by decide) rfl (fun ls hl => ?_)
  refine lv_aload_n hx hb dJ7_fill_d0a16_2 rfl (lv_at hl 1 rfl) ?_
  refine rl_47 C hW (mx_ rfl) dJ7_fill_d0a16_3 ?_
  refine lv_istore (lv' := [(4, .int 24), (3, .int 0), (0, .ref (g.2.2.1 47)), (1, .long a1)]) hx hb dJ7_fill_d0a16_4 hl (by decide) rfl (fun ls hl => ?_)
  have loop6 : ∀ (n : Nat) (m3 : Int32) (Ml1 : Nat → Nat → Int64) (H : Heap) (locs : List Loc) (ls : Array Slot), (24 - m3.toInt).toNat < n → 0 ≤ m3.toInt → (∀ k : Nat, (k : Int) < m3.toInt → Ml1 47 k = a1) → WB g A s.heap H locs (J, (hv L [47] [] Ml1), I, P, E, N) (sgX g ++ dy) → lv_has ls 5 [(4, .int 24), (3, .int m3), (0, .ref (g.2.2.1 47)), (1, .long a1)] → W p l e (RM (1) 0 0) s m ([.ref (g.2.2.1 47), .long a1] : List Value).toArray below meth c H locs 0 0 (MQ below Q9 ([.ref (g.2.2.1 47), .long a1] : List Value).toArray s 0 0 A) (F0 m 6 ls []) := by
    intro n
    induction n with
    | zero => intro m3 Ml1 H locs ls hmeas; exact absurd hmeas (Nat.not_lt_zero _)
    | succ n ih =>
      intro m3 Ml1 H locs ls hmeas hi hfl hW hl
      refine lv_iload_n hx hb dJ7_fill_d0a16_6 rfl (lv_at hl 1 rfl) ?_
      refine lv_iload hx hb dJ7_fill_d0a16_7 (lv_at hl 0 rfl) ?_
      refine lv_icmp_ge (tgt := 22) hx hb dJ7_fill_d0a16_9 (by decide) (fun c2 => ?_) (fun c2 => ?_)
      · have c2 : 24 ≤ m3.toInt := tle kp24 rfl c2
        have hWr : WB g A s.heap H locs (J, (hv L [47] [] (hv L [47] [] Ml1)), I, P, E, N) (sgX g ++ dy) := by
          rw [← ag_hvE (J := L) (R := [47]) (F := []) (ag_hv rfl rfl ag_rf)]
          exact hW
        subst hQ9
        exact end_v C hr hlocks (hv L [47] [] Ml1) hWr (show ∀ k : Nat, k < 24 → (hv L [47] [] Ml1) 47 k = a1 from by exact fun k hk => hfl k (by omega)) dJ7_fill_d0a16_22
      · have c2 : m3.toInt < 24 := tnle kp24 rfl c2
        refine lv_aload_n hx hb dJ7_fill_d0a16_12 rfl (lv_at hl 2 rfl) ?_
        refine lv_iload_n hx hb dJ7_fill_d0a16_13 rfl (lv_at hl 1 rfl) ?_
        refine lv_lload_n hx hb dJ7_fill_d0a16_14 rfl (lv_at hl 3 rfl) ?_
        have hin : vp_in m3 24 := tin rfl (by omega)
        refine rs_47 C hW (mx_ rfl) hin dJ7_fill_d0a16_15 (fun H locs hW => ?_)
        obtain ⟨x3, e3⟩ : ∃ y : Int32, y = m3 + 1 := ⟨_, rfl⟩
        refine lv_iinc (v := x3) (lv' := [(3, .int x3), (4, .int 24), (0, .ref (g.2.2.1 47)), (1, .long a1)]) hx hb dJ7_fill_d0a16_16 hl (k := 1) rfl (by rw [e3]; rfl) (by decide) rfl (fun ls hl => ?_)
        try have t3 : x3.toInt = m3.toInt + 1 := tadd e3 rfl kp1 (by omega)
        refine lv_goto (tgt := 6) hx hb dJ7_fill_d0a16_19 (by decide) ?_
        have hWl : WB g A s.heap H locs (J, (hv L [47] [] (up2 (hv L [47] [] Ml1) 47 m3.toNatClampNeg a1)), I, P, E, N) (sgX g ++ dy) := by
          rw [← ag_hvE (J := L) (R := [47]) (F := []) (ag_up (Or.inl rfl) (ag_hv rfl rfl ag_rf))]
          exact hW
        refine ih x3 (up2 (hv L [47] [] Ml1) 47 m3.toNatClampNeg a1) H locs ls ?_ ?_ ?_ hWl (lv_sub hl [1, 0, 2, 3] rfl)
        · show (24 - x3.toInt).toNat < n
          omega
        · show 0 ≤ x3.toInt
          first | omega | exact hi | assumption
        · show ∀ k : Nat, (k : Int) < x3.toInt → (up2 (hv L [47] [] Ml1) 47 m3.toNatClampNeg a1) 47 k = a1
          (intro k hk; by_cases e9 : k = m3.toNatClampNeg; (rw [e9]; exact up2_s _ _ _ _); exact (up2_f _ _ _ e9).trans (hfl k (by have h8 := tcl m3; omega)))
  -- into the loop
  have hWl : WB g A s.heap H locs (J, (hv L [47] [] L), I, P, E, N) (sgX g ++ dy) := by
    rw [← ag_hvE (J := L) (R := [47]) (F := []) ag_rf]
    exact hW
  refine loop6 ((24 - (0 : Int32).toInt).toNat + 1) 0 L H locs ls ?_ ?_ ?_ hWl (lv_sub hl [0, 1, 2, 3] rfl)
  · exact Nat.lt_succ_self _
  · show 0 ≤ (0 : Int32).toInt
    try rw [kp0]
    first | omega | exact hi | assumption
  · show ∀ k : Nat, (k : Int) < (0 : Int32).toInt → L 47 k = a1
    try rw [kp0]
    intro k hk; omega

set_option maxHeartbeats 4000000 in
set_option maxRecDepth 100000 in
theorem c_X3_addListener_e (l : Launch) (g : gG) (J : Nat → Nat → Int32) (L : Nat → Nat → Int64) (I : Nat → Nat → Nat → Int32) (P : Nat → Nat → Nat → Option Nat) (E : Nat → Option Nat) (N : Nat → Nat) (dy : List (Nat × Nat)) (sz : Nat) (a0 : Int32) (a1 : Int64)  : Met l yX3_addListener (WS yX3_addListener cX3_addListener 5 none) (RM (1) 0 0) (PC g [.ref (g.2.2.1 4), .int a0, .long a1] ((J, L, I, P, E, N), sgX g ++ dy) sz) (va_Qv (fun (u : (Nat → Nat → Int64)) => (ADDL (L 47) (u 47) a0 a1 24)) (fun u t => at_ g (FR g ((J, L, I, P, E, N), sgX g ++ dy) sz) ((J, (hv L [47] [] u), I, P, E, N), sgX g ++ dy) t) (FR g ((J, L, I, P, E, N), sgX g ++ dy) sz)) 0 0 (FR g ((J, L, I, P, E, N), sgX g ++ dy) sz) := by
  refine ent (by decide +kernel) (Nat.le_of_ble_eq_true rfl) ?_
  intro p e s m below meth c ls hsz C hW hr hlocks hname hl
  generalize FR g ((J, L, I, P, E, N), sgX g ++ dy) sz = A at C hW ⊢
  generalize hQ9 : (va_Qv (fun (u : (Nat → Nat → Int64)) => (ADDL (L 47) (u 47) a0 a1 24)) (fun u t => at_ g A ((J, (hv L [47] [] u), I, P, E, N), sgX g ++ dy) t) A) = Q9
  have hx := C.1.1
  have hb := C.1.2.1
  have hts := C.1.2.2.2.2
  have hl : lv_has ls 5 [(0, .ref (g.2.2.1 4)), (1, .int a0), (2, .long a1)] := hl
  obtain ⟨H, hH⟩ : ∃ H : Heap, H = s.heap := ⟨_, rfl⟩
  obtain ⟨locs, hlocs⟩ : ∃ q : List Loc, q = [] := ⟨_, rfl⟩
  have hW : WB g A s.heap H locs (J, L, I, P, E, N) (sgX g ++ dy) := by rw [hH, hlocs]; exact hW
  refine start_ hH hlocs ?_
  refine lv_iconst (v := 0) hx hb dX3_addListener_0 (by decide) ?_
  refine lv_istore (lv' := [(4, .int 0), (0, .ref (g.2.2.1 4)), (1, .int a0), (2, .long a1)]) hx hb dX3_addListener_1 hl (by decide) rfl (fun ls hl => ?_)
  have loop3 : ∀ (n : Nat) (m4 : Int32) (Ml1 : Nat → Nat → Int64) (H : Heap) (locs : List Loc) (ls : Array Slot), (24 - m4.toInt).toNat < n → 0 ≤ m4.toInt ∧ m4.toInt ≤ 24 → ADDL (L 47) (Ml1 47) a0 a1 m4.toInt → WB g A s.heap H locs (J, (hv L [47] [] Ml1), I, P, E, N) (sgX g ++ dy) → lv_has ls 5 [(4, .int m4), (0, .ref (g.2.2.1 4)), (1, .int a0), (2, .long a1)] → W p l e (RM (1) 0 0) s m ([.ref (g.2.2.1 4), .int a0, .long a1] : List Value).toArray below meth c H locs 0 0 (MQ below Q9 ([.ref (g.2.2.1 4), .int a0, .long a1] : List Value).toArray s 0 0 A) (F0 m 3 ls []) := by
    intro n
    induction n with
    | zero => intro m4 Ml1 H locs ls hmeas; exact absurd hmeas (Nat.not_lt_zero _)
    | succ n ih =>
      intro m4 Ml1 H locs ls hmeas hi had hW hl
      refine lv_iload hx hb dX3_addListener_3 (lv_at hl 0 rfl) ?_
      refine lv_aload_n hx hb dX3_addListener_5 rfl (lv_at hl 1 rfl) ?_
      refine rg_4_8 C hW (mx_ rfl) tw_248 dX3_addListener_6 ?_
      refine rl_47 C hW (mx_ rfl) dX3_addListener_9 ?_
      refine lv_icmp_ge (tgt := 43) hx hb dX3_addListener_10 (by decide) (fun c2 => ?_) (fun c2 => ?_)
      · have c2 : 24 ≤ m4.toInt := tle kp24 rfl c2
        have hWr : WB g A s.heap H locs (J, (hv L [47] [] (hv L [47] [] Ml1)), I, P, E, N) (sgX g ++ dy) := by
          rw [← ag_hvE (J := L) (R := [47]) (F := []) (ag_hv rfl rfl ag_rf)]
          exact hW
        subst hQ9
        exact end_v C hr hlocks (hv L [47] [] Ml1) hWr (show ADDL (L 47) ((hv L [47] [] Ml1) 47) a0 a1 24 from by (have e9 : m4.toInt = 24 := (by omega); rw [← e9]; exact had)) dX3_addListener_43
      · have c2 : m4.toInt < 24 := tnle kp24 rfl c2
        refine lv_aload_n hx hb dX3_addListener_13 rfl (lv_at hl 1 rfl) ?_
        refine rg_4_8 C hW (mx_ rfl) tw_248 dX3_addListener_14 ?_
        refine lv_iload hx hb dX3_addListener_17 (lv_at hl 0 rfl) ?_
        refine lv_dup2_11 hx hb dX3_addListener_19 rfl rfl ?_
        have hin : vp_in m4 24 := tin rfl (by omega)
        refine ra_47 C hW (mx_ rfl) hin dX3_addListener_20 ?_
        refine lv_topl (fun z3 ez3 => ?_)
        refine lv_iload_n hx hb dX3_addListener_21 rfl (lv_at hl 2 rfl) ?_
        refine lv_iload hx hb dX3_addListener_22 (lv_at hl 0 rfl) ?_
        refine lv_ishr hx hb dX3_addListener_24 ?_
        refine lv_topi (fun x4 (e4 : x4 = a0 >>> (m4 &&& 31)) => ?_)
        refine lv_iconst (v := 1) hx hb dX3_addListener_25 (by decide) ?_
        refine lv_iand hx hb dX3_addListener_26 ?_
        refine lv_topi (fun x5 (e5 : x5 = x4 &&& 1) => ?_)
        refine lv_if_eq (tgt := 34) hx hb dX3_addListener_27 (by decide) (fun c6 => ?_) (fun c6 => ?_)
        · have c6 : x5.toInt = 0 := teq rfl kp0 c6
          refine lv_lconst (v := 0) hx hb dX3_addListener_34 (by decide) ?_
          refine lv_lor hx hb dX3_addListener_35 ?_
          refine lv_topl (fun z7 ez7 => ?_)
          have hin : vp_in m4 24 := tin rfl (by omega)
          refine rs_47 C hW (mx_ rfl) hin dX3_addListener_36 (fun H locs hW => ?_)
          obtain ⟨x8, e8⟩ : ∃ y : Int32, y = m4 + 1 := ⟨_, rfl⟩
          refine lv_iinc (v := x8) (lv' := [(4, .int x8), (0, .ref (g.2.2.1 4)), (1, .int a0), (2, .long a1)]) hx hb dX3_addListener_37 hl (k := 0) rfl (by rw [e8]; rfl) (by decide) rfl (fun ls hl => ?_)
          try have t8 : x8.toInt = m4.toInt + 1 := tadd e8 rfl kp1 (by omega)
          refine lv_goto (tgt := 3) hx hb dX3_addListener_40 (by decide) ?_
          have hWl : WB g A s.heap H locs (J, (hv L [47] [] (up2 (hv L [47] [] Ml1) 47 m4.toNatClampNeg z7)), I, P, E, N) (sgX g ++ dy) := by
            rw [← ag_hvE (J := L) (R := [47]) (F := []) (ag_up (Or.inl rfl) (ag_hv rfl rfl ag_rf))]
            exact hW
          refine ih x8 (up2 (hv L [47] [] Ml1) 47 m4.toNatClampNeg z7) H locs ls ?_ ?_ ?_ hWl (lv_sub hl [0, 1, 2, 3] rfl)
          · show (24 - x8.toInt).toNat < n
            omega
          · show 0 ≤ x8.toInt ∧ x8.toInt ≤ 24
            first | omega | exact hi | assumption
          · show ADDL (L 47) ((up2 (hv L [47] [] Ml1) 47 m4.toNatClampNeg z7) 47) a0 a1 x8.toInt
            exact addl_s had rfl (by have h8 := tcl m4; omega) (by omega) (by intro w9 hw9; rcases ib_shr (by omega) (by omega) e4 e5 with ⟨q1, q2⟩ | ⟨q1, q2⟩; (refine ⟨fun _ => ?_, fun y9 => absurd q2 y9⟩; first | (exfalso; omega) | (rw [hw9]; rw [ez3] at ez7; exact ez7)); (refine ⟨fun y9 => absurd y9 q2, fun _ => ?_⟩; first | (exfalso; omega) | (rw [hw9]; rw [ez3] at ez7; exact ez7)))
        · have c6 : ¬ x5.toInt = 0 := tne rfl kp0 c6
          refine lv_lload_n hx hb dX3_addListener_30 rfl (lv_at hl 3 rfl) ?_
          refine lv_goto (tgt := 35) hx hb dX3_addListener_31 (by decide) ?_
          refine lv_lor hx hb dX3_addListener_35 ?_
          refine lv_topl (fun z9 ez9 => ?_)
          have hin : vp_in m4 24 := tin rfl (by omega)
          refine rs_47 C hW (mx_ rfl) hin dX3_addListener_36 (fun H locs hW => ?_)
          obtain ⟨x10, e10⟩ : ∃ y : Int32, y = m4 + 1 := ⟨_, rfl⟩
          refine lv_iinc (v := x10) (lv' := [(4, .int x10), (0, .ref (g.2.2.1 4)), (1, .int a0), (2, .long a1)]) hx hb dX3_addListener_37 hl (k := 0) rfl (by rw [e10]; rfl) (by decide) rfl (fun ls hl => ?_)
          try have t10 : x10.toInt = m4.toInt + 1 := tadd e10 rfl kp1 (by omega)
          refine lv_goto (tgt := 3) hx hb dX3_addListener_40 (by decide) ?_
          have hWl : WB g A s.heap H locs (J, (hv L [47] [] (up2 (hv L [47] [] Ml1) 47 m4.toNatClampNeg z9)), I, P, E, N) (sgX g ++ dy) := by
            rw [← ag_hvE (J := L) (R := [47]) (F := []) (ag_up (Or.inl rfl) (ag_hv rfl rfl ag_rf))]
            exact hW
          refine ih x10 (up2 (hv L [47] [] Ml1) 47 m4.toNatClampNeg z9) H locs ls ?_ ?_ ?_ hWl (lv_sub hl [0, 1, 2, 3] rfl)
          · show (24 - x10.toInt).toNat < n
            omega
          · show 0 ≤ x10.toInt ∧ x10.toInt ≤ 24
            first | omega | exact hi | assumption
          · show ADDL (L 47) ((up2 (hv L [47] [] Ml1) 47 m4.toNatClampNeg z9) 47) a0 a1 x10.toInt
            exact addl_s had rfl (by have h8 := tcl m4; omega) (by omega) (by intro w9 hw9; rcases ib_shr (by omega) (by omega) e4 e5 with ⟨q1, q2⟩ | ⟨q1, q2⟩; (refine ⟨fun _ => ?_, fun y9 => absurd q2 y9⟩; first | (exfalso; omega) | (rw [hw9]; rw [ez3] at ez9; exact ez9)); (refine ⟨fun y9 => absurd y9 q2, fun _ => ?_⟩; first | (exfalso; omega) | (rw [hw9]; rw [ez3] at ez9; exact ez9)))
  -- into the loop
  have hWl : WB g A s.heap H locs (J, (hv L [47] [] L), I, P, E, N) (sgX g ++ dy) := by
    rw [← ag_hvE (J := L) (R := [47]) (F := []) ag_rf]
    exact hW
  refine loop3 ((24 - (0 : Int32).toInt).toNat + 1) 0 L H locs ls ?_ ?_ ?_ hWl (lv_sub hl [0, 1, 2, 3] rfl)
  · exact Nat.lt_succ_self _
  · show 0 ≤ (0 : Int32).toInt ∧ (0 : Int32).toInt ≤ 24
    try rw [kp0]
    first | omega | exact hi | assumption
  · show ADDL (L 47) (L 47) a0 a1 (0 : Int32).toInt
    try rw [kp0]
    exact addl_0 (by first | rfl | exact kp0)

set_option maxHeartbeats 4000000 in
set_option maxRecDepth 100000 in
theorem c_X3_covered_e (l : Launch) (g : gG) (J : Nat → Nat → Int32) (L : Nat → Nat → Int64) (I : Nat → Nat → Nat → Int32) (P : Nat → Nat → Nat → Option Nat) (E : Nat → Option Nat) (N : Nat → Nat) (dy : List (Nat × Nat)) (sz : Nat) (a0 : Int32) (hwf : WXF g J P E N dy) (hhr : 0 ≤ a0.toInt ∧ a0.toInt ≤ 16777215) : Met l yX3_covered (WS yX3_covered cX3_covered 7 (some .int)) (RM (3) 0 0) (PC g [.ref (g.2.2.1 4), .int a0] ((J, L, I, P, E, N), sgX g ++ dy) sz) (va_Qi (fun (r : Int32) (u : Unit) => (r.toInt = ((CNT (fun h => CVR (L 47) a0 h) 64 : Nat) : Int))) (fun u t => at_ g (FR g ((J, L, I, P, E, N), sgX g ++ dy) sz) ((J, L, I, P, E, N), sgX g ++ dy) t) (FR g ((J, L, I, P, E, N), sgX g ++ dy) sz)) 0 0 (FR g ((J, L, I, P, E, N), sgX g ++ dy) sz) := by
  refine ent (by decide +kernel) (Nat.le_of_ble_eq_true rfl) ?_
  intro p e s m below meth c ls hsz C hW hr hlocks hname hl
  generalize FR g ((J, L, I, P, E, N), sgX g ++ dy) sz = A at C hW ⊢
  generalize hQ9 : (va_Qi (fun (r : Int32) (u : Unit) => (r.toInt = ((CNT (fun h => CVR (L 47) a0 h) 64 : Nat) : Int))) (fun u t => at_ g A ((J, L, I, P, E, N), sgX g ++ dy) t) A) = Q9
  have hx := C.1.1
  have hb := C.1.2.1
  have hts := C.1.2.2.2.2
  have hl : lv_has ls 7 [(0, .ref (g.2.2.1 4)), (1, .int a0)] := hl
  obtain ⟨H, hH⟩ : ∃ H : Heap, H = s.heap := ⟨_, rfl⟩
  obtain ⟨locs, hlocs⟩ : ∃ q : List Loc, q = [] := ⟨_, rfl⟩
  have hW : WB g A s.heap H locs (J, L, I, P, E, N) (sgX g ++ dy) := by rw [hH, hlocs]; exact hW
  refine start_ hH hlocs ?_
  refine lv_lconst (v := 0) hx hb dX3_covered_0 (by decide) ?_
  refine lv_lstore_n (lv' := [(2, .long (0 : Int64)), (0, .ref (g.2.2.1 4)), (1, .int a0)]) hx hb dX3_covered_1 rfl hl (by decide) rfl (fun ls hl => ?_)
  refine lv_iload_n hx hb dX3_covered_2 rfl (lv_at hl 2 rfl) ?_
  refine lv_istore (lv' := [(4, .int a0), (2, .long (0 : Int64)), (0, .ref (g.2.2.1 4)), (1, .int a0)]) hx hb dX3_covered_3 hl (by decide) rfl (fun ls hl => ?_)
  refine lv_iconst (v := 0) hx hb dX3_covered_5 (by decide) ?_
  refine lv_istore (lv' := [(5, .int 0), (4, .int a0), (2, .long (0 : Int64)), (0, .ref (g.2.2.1 4)), (1, .int a0)]) hx hb dX3_covered_6 hl (by decide) rfl (fun ls hl => ?_)
  have loop8 : ∀ (n : Nat) (m2 : Int64) (m4 : Int32) (m5 : Int32) (H : Heap) (locs : List Loc) (ls : Array Slot), (24 - m5.toInt).toNat < n → 0 ≤ m5.toInt ∧ m5.toInt ≤ 24 → LEFT a0 m4 (L 47) m2 m5.toInt → WB g A s.heap H locs (J, L, I, P, E, N) (sgX g ++ dy) → lv_has ls 7 [(5, .int m5), (4, .int m4), (2, .long m2), (0, .ref (g.2.2.1 4)), (1, .int a0)] → W p l e (RM (3) 0 0) s m ([.ref (g.2.2.1 4), .int a0] : List Value).toArray below meth c H locs 0 0 (MQ below Q9 ([.ref (g.2.2.1 4), .int a0] : List Value).toArray s 0 0 A) (F0 m 8 ls []) := by
    intro n
    induction n with
    | zero => intro m2 m4 m5 H locs ls hmeas; exact absurd hmeas (Nat.not_lt_zero _)
    | succ n ih =>
      intro m2 m4 m5 H locs ls hmeas hi hlf hW hl
      refine lv_iload hx hb dX3_covered_8 (lv_at hl 0 rfl) ?_
      refine lv_bipush (v := 24) hx hb dX3_covered_10 (by decide) ?_
      refine lv_icmp_ge (tgt := 73) hx hb dX3_covered_12 (by decide) (fun c1 => ?_) (fun c1 => ?_)
      · have c1 : 24 ≤ m5.toInt := tle kp24 rfl c1
        refine lv_lload_n hx hb dX3_covered_73 rfl (lv_at hl 2 rfl) ?_
        refine ci_ C hW (runS (As := [.long m2]) (rest := []) (T := ((J, L, I, P, E, N), sgX g ++ dy)) C hW (c_J13_bitCount_95d88_e l g J L I P E N dy H.size m2 ) mi_J13_bitCount_95d88 tw_917 ⟨rfl, rfl, Nat.le_of_ble_eq_true rfl, Nat.le_of_ble_eq_true rfl⟩ rfl hl.1 rfl (Nat.le_of_ble_eq_true rfl) dX3_covered_74 ⟨Nat.le_of_ble_eq_true rfl, Nat.le_of_ble_eq_true rfl⟩) (fun r2 u2 H locs hp2 hW => ?_)
        have hf2_0 : (r2.toInt = ((CB (tM m2) 64 : Nat) : Int)) := hp2
        clear hp2
        have hW : WB g A s.heap H locs (J, L, I, P, E, N) (sgX g ++ dy) := hW
        have hB := hf2_0
        subst hQ9
        exact end_i C hr hlocks () hW (show r2.toInt = ((CNT (fun h => CVR (L 47) a0 h) 64 : Nat) : Int) from by exact hB.trans (congrArg (fun n : Nat => (n : Int)) (cb_cnt (left_end hlf (by omega))))) dX3_covered_77
      · have c1 : m5.toInt < 24 := tnle kp24 rfl c1
        refine lv_iload hx hb dX3_covered_15 (lv_at hl 1 rfl) ?_
        refine lv_if_eq (tgt := 73) hx hb dX3_covered_17 (by decide) (fun c3 => ?_) (fun c3 => ?_)
        · have c3 : m4.toInt = 0 := teq rfl kp0 c3
          refine lv_lload_n hx hb dX3_covered_73 rfl (lv_at hl 2 rfl) ?_
          refine ci_ C hW (runS (As := [.long m2]) (rest := []) (T := ((J, L, I, P, E, N), sgX g ++ dy)) C hW (c_J13_bitCount_95d88_e l g J L I P E N dy H.size m2 ) mi_J13_bitCount_95d88 tw_917 ⟨rfl, rfl, Nat.le_of_ble_eq_true rfl, Nat.le_of_ble_eq_true rfl⟩ rfl hl.1 rfl (Nat.le_of_ble_eq_true rfl) dX3_covered_74 ⟨Nat.le_of_ble_eq_true rfl, Nat.le_of_ble_eq_true rfl⟩) (fun r4 u4 H locs hp4 hW => ?_)
          have hf4_0 : (r4.toInt = ((CB (tM m2) 64 : Nat) : Int)) := hp4
          clear hp4
          have hW : WB g A s.heap H locs (J, L, I, P, E, N) (sgX g ++ dy) := hW
          have hB := hf4_0
          subst hQ9
          exact end_i C hr hlocks () hW (show r4.toInt = ((CNT (fun h => CVR (L 47) a0 h) 64 : Nat) : Int) from by exact hB.trans (congrArg (fun n : Nat => (n : Int)) (cb_cnt (left_end hlf (by omega))))) dX3_covered_77
        · have c3 : ¬ m4.toInt = 0 := tne rfl kp0 c3
          refine lv_iload hx hb dX3_covered_20 (lv_at hl 1 rfl) ?_
          refine lv_iload hx hb dX3_covered_22 (lv_at hl 1 rfl) ?_
          refine lv_ineg hx hb dX3_covered_24 ?_
          refine lv_topi (fun x5 (e5 : x5 = -m4) => ?_)
          try have t5 : x5.toInt = -m4.toInt := tneg e5 rfl (by omega)
          refine lv_iand hx hb dX3_covered_25 ?_
          refine lv_topi (fun x6 (e6 : x6 = m4 &&& x5) => ?_)
          refine lv_iconst (v := 1) hx hb dX3_covered_26 (by decide) ?_
          refine lv_isub hx hb dX3_covered_27 ?_
          refine lv_topi (fun x7 (e7 : x7 = x6 - 1) => ?_)
          refine ci_ C hW (runS (As := [.int x7]) (rest := []) (T := ((J, L, I, P, E, N), sgX g ++ dy)) C hW (c_J6_bitCount_0f7a4_e l g J L I P E N dy H.size x7 ) mi_J6_bitCount_0f7a4 tw_864 ⟨rfl, rfl, Nat.le_of_ble_eq_true rfl, Nat.le_of_ble_eq_true rfl⟩ rfl hl.1 rfl (Nat.le_of_ble_eq_true rfl) dX3_covered_28 ⟨Nat.le_of_ble_eq_true rfl, Nat.le_of_ble_eq_true rfl⟩) (fun r8 u8 H locs hp8 hW => ?_)
          have hf8_0 : (r8.toInt = ((CB (tN x7) 32 : Nat) : Int)) := hp8
          clear hp8
          have hW : WB g A s.heap H locs (J, L, I, P, E, N) (sgX g ++ dy) := hW
          have hBC := hf8_0
          have hLW := left_low (d := m4 - 1) hlf.1 (by omega) e5 e6 e7 hBC rfl
          obtain ⟨p9, hp1, hp2, -⟩ := id hLW
          refine lv_istore (lv' := [(6, .int r8), (5, .int m5), (4, .int m4), (2, .long m2), (0, .ref (g.2.2.1 4)), (1, .int a0)]) hx hb dX3_covered_31 hl (by decide) rfl (fun ls hl => ?_)
          refine lv_iload hx hb dX3_covered_33 (lv_at hl 0 rfl) ?_
          refine lv_if_lt (tgt := 58) hx hb dX3_covered_35 (by decide) (fun c9 => ?_) (fun c9 => ?_)
          · have c9 : r8.toInt < 0 := tlt rfl kp0 c9
            refine lv_iload hx hb dX3_covered_58 (lv_at hl 2 rfl) ?_
            refine lv_iload hx hb dX3_covered_60 (lv_at hl 2 rfl) ?_
            refine lv_iconst (v := 1) hx hb dX3_covered_62 (by decide) ?_
            refine lv_isub hx hb dX3_covered_63 ?_
            refine lv_topi (fun x10 (e10 : x10 = m4 - 1) => ?_)
            refine lv_iand hx hb dX3_covered_64 ?_
            refine lv_topi (fun x11 (e11 : x11 = m4 &&& x10) => ?_)
            refine lv_istore (lv' := [(4, .int x11), (6, .int r8), (5, .int m5), (2, .long m2), (0, .ref (g.2.2.1 4)), (1, .int a0)]) hx hb dX3_covered_65 hl (by decide) rfl (fun ls hl => ?_)
            obtain ⟨x12, e12⟩ : ∃ y : Int32, y = m5 + 1 := ⟨_, rfl⟩
            refine lv_iinc (v := x12) (lv' := [(5, .int x12), (4, .int x11), (6, .int r8), (2, .long m2), (0, .ref (g.2.2.1 4)), (1, .int a0)]) hx hb dX3_covered_67 hl (k := 2) rfl (by rw [e12]; rfl) (by decide) rfl (fun ls hl => ?_)
            try have t12 : x12.toInt = m5.toInt + 1 := tadd e12 rfl kp1 (by omega)
            refine lv_goto (tgt := 8) hx hb dX3_covered_70 (by decide) ?_
            refine ih m2 x11 x12 H locs ls ?_ ?_ ?_ hW (lv_sub hl [0, 1, 3, 4, 5] rfl)
            · show (24 - x12.toInt).toNat < n
              omega
            · show 0 ≤ x12.toInt ∧ x12.toInt ≤ 24
              first | omega | exact hi | assumption
            · show LEFT a0 x11 (L 47) m2 x12.toInt
              (exfalso; omega)
          · have c9 : 0 ≤ r8.toInt := tnlt rfl kp0 c9
            refine lv_iload hx hb dX3_covered_38 (lv_at hl 0 rfl) ?_
            refine lv_aload_n hx hb dX3_covered_40 rfl (lv_at hl 4 rfl) ?_
            refine rg_4_8 C hW (mx_ rfl) tw_248 dX3_covered_41 ?_
            refine rl_47 C hW (mx_ rfl) dX3_covered_44 ?_
            refine lv_icmp_ge (tgt := 58) hx hb dX3_covered_45 (by decide) (fun c13 => ?_) (fun c13 => ?_)
            · have c13 : 24 ≤ r8.toInt := tle kp24 rfl c13
              refine lv_iload hx hb dX3_covered_58 (lv_at hl 2 rfl) ?_
              refine lv_iload hx hb dX3_covered_60 (lv_at hl 2 rfl) ?_
              refine lv_iconst (v := 1) hx hb dX3_covered_62 (by decide) ?_
              refine lv_isub hx hb dX3_covered_63 ?_
              refine lv_topi (fun x14 (e14 : x14 = m4 - 1) => ?_)
              refine lv_iand hx hb dX3_covered_64 ?_
              refine lv_topi (fun x15 (e15 : x15 = m4 &&& x14) => ?_)
              refine lv_istore (lv' := [(4, .int x15), (6, .int r8), (5, .int m5), (2, .long m2), (0, .ref (g.2.2.1 4)), (1, .int a0)]) hx hb dX3_covered_65 hl (by decide) rfl (fun ls hl => ?_)
              obtain ⟨x16, e16⟩ : ∃ y : Int32, y = m5 + 1 := ⟨_, rfl⟩
              refine lv_iinc (v := x16) (lv' := [(5, .int x16), (4, .int x15), (6, .int r8), (2, .long m2), (0, .ref (g.2.2.1 4)), (1, .int a0)]) hx hb dX3_covered_67 hl (k := 2) rfl (by rw [e16]; rfl) (by decide) rfl (fun ls hl => ?_)
              try have t16 : x16.toInt = m5.toInt + 1 := tadd e16 rfl kp1 (by omega)
              refine lv_goto (tgt := 8) hx hb dX3_covered_70 (by decide) ?_
              refine ih m2 x15 x16 H locs ls ?_ ?_ ?_ hW (lv_sub hl [0, 1, 3, 4, 5] rfl)
              · show (24 - x16.toInt).toNat < n
                omega
              · show 0 ≤ x16.toInt ∧ x16.toInt ≤ 24
                first | omega | exact hi | assumption
              · show LEFT a0 x15 (L 47) m2 x16.toInt
                (exfalso; omega)
            · have c13 : r8.toInt < 24 := tnle kp24 rfl c13
              refine lv_lload_n hx hb dX3_covered_48 rfl (lv_at hl 3 rfl) ?_
              refine lv_aload_n hx hb dX3_covered_49 rfl (lv_at hl 4 rfl) ?_
              refine rg_4_8 C hW (mx_ rfl) tw_248 dX3_covered_50 ?_
              refine lv_iload hx hb dX3_covered_53 (lv_at hl 0 rfl) ?_
              have hin : vp_in r8 24 := tin rfl (by omega)
              refine ra_47 C hW (mx_ rfl) hin dX3_covered_55 ?_
              refine lv_topl (fun z17 ez17 => ?_)
              refine lv_lor hx hb dX3_covered_56 ?_
              refine lv_topl (fun z18 ez18 => ?_)
              refine lv_lstore_n (lv' := [(2, .long z18), (6, .int r8), (5, .int m5), (4, .int m4), (0, .ref (g.2.2.1 4)), (1, .int a0)]) hx hb dX3_covered_57 rfl hl (by decide) rfl (fun ls hl => ?_)
              refine lv_iload hx hb dX3_covered_58 (lv_at hl 3 rfl) ?_
              refine lv_iload hx hb dX3_covered_60 (lv_at hl 3 rfl) ?_
              refine lv_iconst (v := 1) hx hb dX3_covered_62 (by decide) ?_
              refine lv_isub hx hb dX3_covered_63 ?_
              refine lv_topi (fun x19 (e19 : x19 = m4 - 1) => ?_)
              refine lv_iand hx hb dX3_covered_64 ?_
              refine lv_topi (fun x20 (e20 : x20 = m4 &&& x19) => ?_)
              refine lv_istore (lv' := [(4, .int x20), (2, .long z18), (6, .int r8), (5, .int m5), (0, .ref (g.2.2.1 4)), (1, .int a0)]) hx hb dX3_covered_65 hl (by decide) rfl (fun ls hl => ?_)
              obtain ⟨x21, e21⟩ : ∃ y : Int32, y = m5 + 1 := ⟨_, rfl⟩
              refine lv_iinc (v := x21) (lv' := [(5, .int x21), (4, .int x20), (2, .long z18), (6, .int r8), (0, .ref (g.2.2.1 4)), (1, .int a0)]) hx hb dX3_covered_67 hl (k := 3) rfl (by rw [e21]; rfl) (by decide) rfl (fun ls hl => ?_)
              try have t21 : x21.toInt = m5.toInt + 1 := tadd e21 rfl kp1 (by omega)
              refine lv_goto (tgt := 8) hx hb dX3_covered_70 (by decide) ?_
              refine ih z18 x20 x21 H locs ls ?_ ?_ ?_ hW (lv_sub hl [0, 1, 2, 4, 5] rfl)
              · show (24 - x21.toInt).toNat < n
                omega
              · show 0 ≤ x21.toInt ∧ x21.toInt ≤ 24
                first | omega | exact hi | assumption
              · show LEFT a0 x20 (L 47) z18 x21.toInt
                exact left_s hlf hLW (by rw [e20, e19]) ez17 ez18 (by omega)
  -- into the loop
  refine loop8 ((24 - (0 : Int32).toInt).toNat + 1) (0 : Int64) a0 0 H locs ls ?_ ?_ ?_ hW (lv_sub hl [0, 1, 2, 3, 4] rfl)
  · exact Nat.lt_succ_self _
  · show 0 ≤ (0 : Int32).toInt ∧ (0 : Int32).toInt ≤ 24
    try rw [kp0]
    first | omega | exact hi | assumption
  · show LEFT a0 a0 (L 47) (0 : Int64) (0 : Int32).toInt
    try rw [kp0]
    exact left_0 (by have h8 := tN_i hhr.1; omega) (by first | rfl | exact kp0)

set_option maxHeartbeats 4000000 in
set_option maxRecDepth 100000 in
theorem c_X3_findListeners_e (l : Launch) (g : gG) (J : Nat → Nat → Int32) (L : Nat → Nat → Int64) (I : Nat → Nat → Nat → Int32) (P : Nat → Nat → Nat → Option Nat) (E : Nat → Option Nat) (N : Nat → Nat) (dy : List (Nat × Nat)) (sz : Nat) (a0 : Nat) (hm0 : (9, a0) ∈ dy) (a1 : Int32) (a2 : Int32) (hwf : WXF g J P E N dy) (hnt : NTR (P 6 0) (elt E P 20) (J 101) (J 20 2).toInt) (hij : INJ E P 20 (J 20 2).toInt) (hcu : CUR (P 1 0) (I 1 1) (I 1 2) (elt E P 21) (elt E P 20) (J 105) (J 106) (J 107) (J 21 2).toInt (J 20 2).toInt) (hhm : HMR (P 2 0) (I 2 1) (I 2 2) (I 2 3) (elt E P 22) (elt E P 20) (J 108) (J 109) (J 110) (J 111) (J 22 2).toInt (J 20 2).toInt) (hm9 : 0 ≤ a1.toInt ∧ a1.toInt ≤ 9999) (hn40 : (J 22 2).toInt ≤ 40) : Met l yX3_findListeners (WS yX3_findListeners cX3_findListeners 8 none) (RM (5) 0 0) (PC g [.ref (g.2.2.1 4), .ref a0, .int a1, .int a2] ((J, L, I, P, E, N), sgX g ++ dy) sz) (va_Qv (fun (u : (Nat → Nat → Int64) × (Nat → Nat → Nat → Int32)) => (∃ x x2 : Nat → Int32, SND x (J 101) (fun k => I 6 1 (elt E P 20 k)) (fun k => I 6 3 (elt E P 20 k)) (fun k => I 6 5 (elt E P 20 k)) (CUTP (J 105) (J 106) (J 107) (J 21 2).toInt a1.toInt) (I 9 5 a0) (I 9 3 a0) (J 20 2).toInt ∧ SND x2 (J 101) (fun k => I 6 1 (elt E P 20 k)) (fun k => I 6 3 (elt E P 20 k)) (fun k => I 6 5 (elt E P 20 k)) (CUTP (J 105) (J 106) (J 107) (J 21 2).toInt (-1 : Int32).toInt) a2 (J 4 4) (J 20 2).toInt ∧ LSTN (u.1 47) (J 110) (LSP (I 9 2 a0) (J 110) (J 111) a1.toInt (J 4 5) (J 109) (J 108) x x2) (J 22 2).toInt)) (fun u t => at_ g (FR g ((J, L, I, P, E, N), sgX g ++ dy) sz) ((J, (hv L [47] [] u.1), (hv I [] [(6, 6), (6, 7)] u.2), P, E, N), sgX g ++ dy) t) (FR g ((J, L, I, P, E, N), sgX g ++ dy) sz)) 0 0 (FR g ((J, L, I, P, E, N), sgX g ++ dy) sz) := by
  refine ent (by decide +kernel) (Nat.le_of_ble_eq_true rfl) ?_
  intro p e s m below meth c ls hsz C hW hr hlocks hname hl
  generalize FR g ((J, L, I, P, E, N), sgX g ++ dy) sz = A at C hW ⊢
  generalize hQ9 : (va_Qv (fun (u : (Nat → Nat → Int64) × (Nat → Nat → Nat → Int32)) => (∃ x x2 : Nat → Int32, SND x (J 101) (fun k => I 6 1 (elt E P 20 k)) (fun k => I 6 3 (elt E P 20 k)) (fun k => I 6 5 (elt E P 20 k)) (CUTP (J 105) (J 106) (J 107) (J 21 2).toInt a1.toInt) (I 9 5 a0) (I 9 3 a0) (J 20 2).toInt ∧ SND x2 (J 101) (fun k => I 6 1 (elt E P 20 k)) (fun k => I 6 3 (elt E P 20 k)) (fun k => I 6 5 (elt E P 20 k)) (CUTP (J 105) (J 106) (J 107) (J 21 2).toInt (-1 : Int32).toInt) a2 (J 4 4) (J 20 2).toInt ∧ LSTN (u.1 47) (J 110) (LSP (I 9 2 a0) (J 110) (J 111) a1.toInt (J 4 5) (J 109) (J 108) x x2) (J 22 2).toInt)) (fun u t => at_ g A ((J, (hv L [47] [] u.1), (hv I [] [(6, 6), (6, 7)] u.2), P, E, N), sgX g ++ dy) t) A) = Q9
  have hx := C.1.1
  have hb := C.1.2.1
  have hts := C.1.2.2.2.2
  have hl : lv_has ls 8 [(0, .ref (g.2.2.1 4)), (1, .ref a0), (2, .int a1), (3, .int a2)] := hl
  obtain ⟨H, hH⟩ : ∃ H : Heap, H = s.heap := ⟨_, rfl⟩
  obtain ⟨locs, hlocs⟩ : ∃ q : List Loc, q = [] := ⟨_, rfl⟩
  have hW : WB g A s.heap H locs (J, L, I, P, E, N) (sgX g ++ dy) := by rw [hH, hlocs]; exact hW
  obtain ⟨h22a, h22b, -⟩ := hwf.1.2.2.1
  refine start_ hH hlocs ?_
  refine lv_aload_n hx hb dX3_findListeners_0 rfl (lv_at hl 0 rfl) ?_
  refine lv_aload_n hx hb dX3_findListeners_1 rfl (lv_at hl 1 rfl) ?_
  refine rg_9_5 C hW (List.mem_append_right _ hm0) tw_435 dX3_findListeners_2 ?_
  refine lv_topi (fun x1 (e1 : x1 = I 9 5 a0) => ?_)
  have t1 : x1.toInt = (I 9 5 a0).toInt := by rw [e1]
  refine lv_aload_n hx hb dX3_findListeners_5 rfl (lv_at hl 1 rfl) ?_
  refine rg_9_3 C hW (List.mem_append_right _ hm0) tw_431 dX3_findListeners_6 ?_
  refine lv_topi (fun x2 (e2 : x2 = I 9 3 a0) => ?_)
  have t2 : x2.toInt = (I 9 3 a0).toInt := by rw [e2]
  refine lv_iload_n hx hb dX3_findListeners_9 rfl (lv_at hl 2 rfl) ?_
  refine cv_ C hW (runV (x := (g.2.2.1 4)) (As := [.int x1, .int x2, .int a1]) (rest := []) (T := ((J, L, I, P, E, N), sgX g ++ dy)) C hW (c_X3_carry_e l g J L I P E N dy H.size x1 x2 a1 hwf (show NTR (P 6 0) (elt E P 20) (J 101) (J 20 2).toInt from hnt) (show INJ E P 20 (J 20 2).toInt from hij) (show CUR (P 1 0) (I 1 1) (I 1 2) (elt E P 21) (elt E P 20) (J 105) (J 106) (J 107) (J 21 2).toInt (J 20 2).toInt from hcu)) mi_X3_carry tw_716 (recv_ (T := ((J, L, I, P, E, N), sgX g ++ dy)) C hW (mx_ rfl) rfl rfl) ⟨rfl, rfl, Nat.le_of_ble_eq_true rfl, Nat.le_of_ble_eq_true rfl⟩ rfl hl.1 rfl (Nat.le_of_ble_eq_true rfl) dX3_findListeners_10 ⟨Nat.le_of_ble_eq_true rfl, Nat.le_of_ble_eq_true rfl⟩) (fun u3 H locs hp3 hW => ?_)
  have hf3_0 : (SND (fun k => u3 6 7 (elt E P 20 k)) (J 101) (fun k => I 6 1 (elt E P 20 k)) (fun k => I 6 3 (elt E P 20 k)) (fun k => I 6 5 (elt E P 20 k)) (CUTP (J 105) (J 106) (J 107) (J 21 2).toInt a1.toInt) x1 x2 (J 20 2).toInt) := hp3
  clear hp3
  have hW : WB g A s.heap H locs (J, L, (hv I [] [(6, 6), (6, 7)] u3), P, E, N) (sgX g ++ dy) := hW
  have hS := hf3_0
  refine lv_lconst (v := 0) hx hb dX3_findListeners_13 (by decide) ?_
  refine lv_lstore (lv' := [(4, .long (0 : Int64)), (0, .ref (g.2.2.1 4)), (1, .ref a0), (2, .int a1), (3, .int a2)]) hx hb dX3_findListeners_14 hl (by decide) rfl (fun ls hl => ?_)
  refine lv_iconst (v := 0) hx hb dX3_findListeners_16 (by decide) ?_
  refine lv_istore (lv' := [(6, .int 0), (4, .long (0 : Int64)), (0, .ref (g.2.2.1 4)), (1, .ref a0), (2, .int a1), (3, .int a2)]) hx hb dX3_findListeners_17 hl (by decide) rfl (fun ls hl => ?_)
  have loop19 : ∀ (n : Nat) (m4 : Int64) (m6 : Int32) (H : Heap) (locs : List Loc) (ls : Array Slot), ((J 22 2).toInt - m6.toInt).toNat < n → 0 ≤ m6.toInt ∧ m6.toInt ≤ (J 22 2).toInt → HBB m4 (fun h => 0 < (HF (I 9 2 a0) (J 110) (J 111) a1.toInt (J 4 5) (J 109) (J 108) (fun k => (hv I [] [(6, 6), (6, 7)] u3) 6 7 (elt E P 20 k))) h) m6.toInt → WB g A s.heap H locs (J, L, (hv I [] [(6, 6), (6, 7)] u3), P, E, N) (sgX g ++ dy) → lv_has ls 8 [(6, .int m6), (4, .long m4), (0, .ref (g.2.2.1 4)), (1, .ref a0), (2, .int a1), (3, .int a2)] → W p l e (RM (5) 0 0) s m ([.ref (g.2.2.1 4), .ref a0, .int a1, .int a2] : List Value).toArray below meth c H locs 0 0 (MQ below Q9 ([.ref (g.2.2.1 4), .ref a0, .int a1, .int a2] : List Value).toArray s 0 0 A) (F0 m 19 ls []) := by
    intro n
    induction n with
    | zero => intro m4 m6 H locs ls hmeas; exact absurd hmeas (Nat.not_lt_zero _)
    | succ n ih =>
      intro m4 m6 H locs ls hmeas hi hhb hW hl
      refine lv_iload hx hb dX3_findListeners_19 (lv_at hl 0 rfl) ?_
      refine lv_aload_n hx hb dX3_findListeners_21 rfl (lv_at hl 2 rfl) ?_
      refine rg_4_2 C hW (mx_ rfl) tw_236 dX3_findListeners_22 ?_
      refine ci_ C hW (runV (x := (g.2.2.1 22)) (As := []) (rest := [.int m6]) (T := ((J, L, (hv I [] [(6, 6), (6, 7)] u3), P, E, N), sgX g ++ dy)) C hW (c_Jx4a65c_size_8abf5 l g J L (hv I [] [(6, 6), (6, 7)] u3) P E N dy H.size 22 rfl ) mi_Jx4a65c_size_8abf5 tw_467 (recv_ (T := ((J, L, (hv I [] [(6, 6), (6, 7)] u3), P, E, N), sgX g ++ dy)) C hW (mx_ rfl) (cel_list rfl) rfl) ⟨rfl, rfl, Nat.le_of_ble_eq_true rfl, Nat.le_of_ble_eq_true rfl⟩ rfl hl.1 rfl (Nat.le_of_ble_eq_true rfl) dX3_findListeners_25 ⟨Nat.le_of_ble_eq_true rfl, Nat.le_of_ble_eq_true rfl⟩) (fun r4 u4 H locs hp4 hW => ?_)
      have hc4 : ((r4 = J 22 2)) := hp4
      clear hp4
      have hr4 : r4 = J 22 2 := hc4
      refine lv_as (J 22 2) hr4 ?_
      have hW : WB g A s.heap H locs (J, L, (hv I [] [(6, 6), (6, 7)] u3), P, E, N) (sgX g ++ dy) := hW
      refine lv_icmp_ge (tgt := 71) hx hb dX3_findListeners_28 (by decide) (fun c5 => ?_) (fun c5 => ?_)
      · have c5 : (J 22 2).toInt ≤ m6.toInt := tle rfl rfl c5
        refine lv_aload_n hx hb dX3_findListeners_71 rfl (lv_at hl 2 rfl) ?_
        have hhb9 : HBB m4 (fun h => 0 < (HF (I 9 2 a0) (J 110) (J 111) a1.toInt (J 4 5) (J 109) (J 108) (fun k => (hv I [] [(6, 6), (6, 7)] u3) 6 7 (elt E P 20 k))) h) (J 22 2).toInt := by (have e9 : m6.toInt = (J 22 2).toInt := (by omega); rw [← e9]; exact hhb)
        refine lv_iload_n hx hb dX3_findListeners_72 rfl (lv_at hl 5 rfl) ?_
        refine lv_aload_n hx hb dX3_findListeners_73 rfl (lv_at hl 2 rfl) ?_
        refine rg_4_4 C hW (mx_ rfl) tw_241 dX3_findListeners_74 ?_
        refine lv_iconst (v := (-1)) hx hb dX3_findListeners_77 (by decide) ?_
        refine cv_ C hW (runV (x := (g.2.2.1 4)) (As := [.int a2, .int (J 4 4), .int (-1)]) (rest := []) (T := ((J, L, (hv I [] [(6, 6), (6, 7)] u3), P, E, N), sgX g ++ dy)) C hW (c_X3_carry_e l g J L (hv I [] [(6, 6), (6, 7)] u3) P E N dy H.size a2 (J 4 4) (-1) hwf (show NTR (P 6 0) (elt E P 20) (J 101) (J 20 2).toInt from hnt) (show INJ E P 20 (J 20 2).toInt from hij) (show CUR (P 1 0) ((hv I [] [(6, 6), (6, 7)] u3) 1 1) ((hv I [] [(6, 6), (6, 7)] u3) 1 2) (elt E P 21) (elt E P 20) (J 105) (J 106) (J 107) (J 21 2).toInt (J 20 2).toInt from hcu)) mi_X3_carry tw_716 (recv_ (T := ((J, L, (hv I [] [(6, 6), (6, 7)] u3), P, E, N), sgX g ++ dy)) C hW (mx_ rfl) rfl rfl) ⟨rfl, rfl, Nat.le_of_ble_eq_true rfl, Nat.le_of_ble_eq_true rfl⟩ rfl hl.1 rfl (Nat.le_of_ble_eq_true rfl) dX3_findListeners_78 ⟨Nat.le_of_ble_eq_true rfl, Nat.le_of_ble_eq_true rfl⟩) (fun u6 H locs hp6 hW => ?_)
        have hf6_0 : (SND (fun k => u6 6 7 (elt E P 20 k)) (J 101) (fun k => (hv I [] [(6, 6), (6, 7)] u3) 6 1 (elt E P 20 k)) (fun k => (hv I [] [(6, 6), (6, 7)] u3) 6 3 (elt E P 20 k)) (fun k => (hv I [] [(6, 6), (6, 7)] u3) 6 5 (elt E P 20 k)) (CUTP (J 105) (J 106) (J 107) (J 21 2).toInt (-1 : Int32).toInt) a2 (J 4 4) (J 20 2).toInt) := hp6
        clear hp6
        have hW : WB g A s.heap H locs (J, L, (hv (hv I [] [(6, 6), (6, 7)] u3) [] [(6, 6), (6, 7)] u6), P, E, N) (sgX g ++ dy) := hW
        have hS2 := hf6_0
        refine lv_aload_n hx hb dX3_findListeners_81 rfl (lv_at hl 2 rfl) ?_
        refine rg_4_8 C hW (mx_ rfl) tw_248 dX3_findListeners_82 ?_
        refine lv_lconst (v := 0) hx hb dX3_findListeners_85 (by decide) ?_
        refine cv_ C hW (runS (As := [.ref (g.2.2.1 47), .long (0 : Int64)]) (rest := []) (T := ((J, L, (hv (hv I [] [(6, 6), (6, 7)] u3) [] [(6, 6), (6, 7)] u6), P, E, N), sgX g ++ dy)) C hW (c_J7_fill_d0a16_e l g J L (hv (hv I [] [(6, 6), (6, 7)] u3) [] [(6, 6), (6, 7)] u6) P E N dy H.size (0 : Int64) ) mi_J7_fill_d0a16 tw_906 ⟨rfl, rfl, Nat.le_of_ble_eq_true rfl, Nat.le_of_ble_eq_true rfl⟩ rfl hl.1 rfl (Nat.le_of_ble_eq_true rfl) dX3_findListeners_86 ⟨Nat.le_of_ble_eq_true rfl, Nat.le_of_ble_eq_true rfl⟩) (fun u7 H locs hp7 hW => ?_)
        have hf7_0 : (∀ k : Nat, k < 24 → u7 47 k = (0 : Int64)) := hp7
        clear hp7
        have hW : WB g A s.heap H locs (J, (hv L [47] [] u7), (hv (hv I [] [(6, 6), (6, 7)] u3) [] [(6, 6), (6, 7)] u6), P, E, N) (sgX g ++ dy) := hW
        have hFL := hf7_0
        refine lv_iconst (v := 0) hx hb dX3_findListeners_89 (by decide) ?_
        refine lv_istore (lv' := [(6, .int 0), (4, .long m4), (0, .ref (g.2.2.1 4)), (1, .ref a0), (2, .int a1), (3, .int a2)]) hx hb dX3_findListeners_90 hl (by decide) rfl (fun ls hl => ?_)
        have loop92 : ∀ (n92 : Nat) (m6 : Int32) (Ml8 : Nat → Nat → Int64) (H : Heap) (locs : List Loc) (ls : Array Slot), ((J 22 2).toInt - m6.toInt).toNat < n92 → 0 ≤ m6.toInt ∧ m6.toInt ≤ (J 22 2).toInt → LSTN (Ml8 47) (J 110) (LSP (I 9 2 a0) (J 110) (J 111) a1.toInt (J 4 5) (J 109) (J 108) (fun k => (hv I [] [(6, 6), (6, 7)] u3) 6 7 (elt E P 20 k)) (fun k => (hv (hv I [] [(6, 6), (6, 7)] u3) [] [(6, 6), (6, 7)] u6) 6 7 (elt E P 20 k))) m6.toInt → WB g A s.heap H locs (J, (hv (hv L [47] [] u7) [47] [] Ml8), (hv (hv I [] [(6, 6), (6, 7)] u3) [] [(6, 6), (6, 7)] u6), P, E, N) (sgX g ++ dy) → lv_has ls 8 [(6, .int m6), (4, .long m4), (0, .ref (g.2.2.1 4)), (1, .ref a0), (2, .int a1), (3, .int a2)] → W p l e (RM (5) 0 0) s m ([.ref (g.2.2.1 4), .ref a0, .int a1, .int a2] : List Value).toArray below meth c H locs 0 0 (MQ below Q9 ([.ref (g.2.2.1 4), .ref a0, .int a1, .int a2] : List Value).toArray s 0 0 A) (F0 m 92 ls []) := by
          intro n92
          induction n92 with
          | zero => intro m6 Ml8 H locs ls hmeas; exact absurd hmeas (Nat.not_lt_zero _)
          | succ n92 ih92 =>
            intro m6 Ml8 H locs ls hmeas hi hls hW hl
            refine lv_iload hx hb dX3_findListeners_92 (lv_at hl 0 rfl) ?_
            refine lv_aload_n hx hb dX3_findListeners_94 rfl (lv_at hl 2 rfl) ?_
            refine rg_4_2 C hW (mx_ rfl) tw_236 dX3_findListeners_95 ?_
            refine ci_ C hW (runV (x := (g.2.2.1 22)) (As := []) (rest := [.int m6]) (T := ((J, (hv (hv L [47] [] u7) [47] [] Ml8), (hv (hv I [] [(6, 6), (6, 7)] u3) [] [(6, 6), (6, 7)] u6), P, E, N), sgX g ++ dy)) C hW (c_Jx4a65c_size_8abf5 l g J (hv (hv L [47] [] u7) [47] [] Ml8) (hv (hv I [] [(6, 6), (6, 7)] u3) [] [(6, 6), (6, 7)] u6) P E N dy H.size 22 rfl ) mi_Jx4a65c_size_8abf5 tw_467 (recv_ (T := ((J, (hv (hv L [47] [] u7) [47] [] Ml8), (hv (hv I [] [(6, 6), (6, 7)] u3) [] [(6, 6), (6, 7)] u6), P, E, N), sgX g ++ dy)) C hW (mx_ rfl) (cel_list rfl) rfl) ⟨rfl, rfl, Nat.le_of_ble_eq_true rfl, Nat.le_of_ble_eq_true rfl⟩ rfl hl.1 rfl (Nat.le_of_ble_eq_true rfl) dX3_findListeners_98 ⟨Nat.le_of_ble_eq_true rfl, Nat.le_of_ble_eq_true rfl⟩) (fun r9 u9 H locs hp9 hW => ?_)
            have hc9 : ((r9 = J 22 2)) := hp9
            clear hp9
            have hr9 : r9 = J 22 2 := hc9
            refine lv_as (J 22 2) hr9 ?_
            have hW : WB g A s.heap H locs (J, (hv (hv L [47] [] u7) [47] [] Ml8), (hv (hv I [] [(6, 6), (6, 7)] u3) [] [(6, 6), (6, 7)] u6), P, E, N) (sgX g ++ dy) := hW
            refine lv_icmp_ge (tgt := 161) hx hb dX3_findListeners_101 (by decide) (fun c10 => ?_) (fun c10 => ?_)
            · have c10 : (J 22 2).toInt ≤ m6.toInt := tle rfl rfl c10
              have hWr : WB g A s.heap H locs (J, (hv L [47] [] (hv (hv L [47] [] u7) [47] [] Ml8)), (hv I [] [(6, 6), (6, 7)] (hv (hv I [] [(6, 6), (6, 7)] u3) [] [(6, 6), (6, 7)] u6)), P, E, N) (sgX g ++ dy) := by
                rw [← ag_hvE (J := L) (R := [47]) (F := []) (ag_hv rfl rfl (ag_hv rfl rfl ag_rf))]
                rw [← ag_hvE (J := I) (R := []) (F := [(6, 6), (6, 7)]) (ag_hv rfl rfl (ag_hv rfl rfl ag_rf))]
                exact hW
              subst hQ9
              exact end_v C hr hlocks ((hv (hv L [47] [] u7) [47] [] Ml8), (hv (hv I [] [(6, 6), (6, 7)] u3) [] [(6, 6), (6, 7)] u6)) hWr (show ∃ x x2 : Nat → Int32, SND x (J 101) (fun k => I 6 1 (elt E P 20 k)) (fun k => I 6 3 (elt E P 20 k)) (fun k => I 6 5 (elt E P 20 k)) (CUTP (J 105) (J 106) (J 107) (J 21 2).toInt a1.toInt) (I 9 5 a0) (I 9 3 a0) (J 20 2).toInt ∧ SND x2 (J 101) (fun k => I 6 1 (elt E P 20 k)) (fun k => I 6 3 (elt E P 20 k)) (fun k => I 6 5 (elt E P 20 k)) (CUTP (J 105) (J 106) (J 107) (J 21 2).toInt (-1 : Int32).toInt) a2 (J 4 4) (J 20 2).toInt ∧ LSTN ((hv (hv L [47] [] u7) [47] [] Ml8) 47) (J 110) (LSP (I 9 2 a0) (J 110) (J 111) a1.toInt (J 4 5) (J 109) (J 108) x x2) (J 22 2).toInt from by (rw [e1, e2] at hS; have e9 : m6.toInt = (J 22 2).toInt := (by omega); rw [e9] at hls; exact ⟨_, _, hS, hS2, hls⟩)) dX3_findListeners_161
            · have c10 : m6.toInt < (J 22 2).toInt := tnle rfl rfl c10
              refine lv_aload_n hx hb dX3_findListeners_104 rfl (lv_at hl 2 rfl) ?_
              refine rg_4_2 C hW (mx_ rfl) tw_236 dX3_findListeners_105 ?_
              refine lv_iload hx hb dX3_findListeners_108 (lv_at hl 0 rfl) ?_
              refine cq_ C hW (runV (x := (g.2.2.1 22)) (As := [.int m6]) (rest := []) (T := ((J, (hv (hv L [47] [] u7) [47] [] Ml8), (hv (hv I [] [(6, 6), (6, 7)] u3) [] [(6, 6), (6, 7)] u6), P, E, N), sgX g ++ dy)) C hW ((c_Jx4a65c_get_915e3 2) l g J (hv (hv L [47] [] u7) [47] [] Ml8) (hv (hv I [] [(6, 6), (6, 7)] u3) [] [(6, 6), (6, 7)] u6) P E N dy H.size 22 rfl m6 (show LWF g J P E N dy 22 2 from hwf.1.2.2.1) (show 0 ≤ m6.toInt ∧ m6.toInt < (J 22 2).toInt from by omega)) mi_Jx4a65c_get_915e3 tw_471 (recv_ (T := ((J, (hv (hv L [47] [] u7) [47] [] Ml8), (hv (hv I [] [(6, 6), (6, 7)] u3) [] [(6, 6), (6, 7)] u6), P, E, N), sgX g ++ dy)) C hW (mx_ rfl) (cel_list rfl) rfl) ⟨rfl, rfl, Nat.le_of_ble_eq_true rfl, Nat.le_of_ble_eq_true rfl⟩ rfl hl.1 rfl (Nat.le_of_ble_eq_true rfl) dX3_findListeners_110 ⟨Nat.le_of_ble_eq_true rfl, Nat.le_of_ble_eq_true rfl⟩) (fun q11 u11 H locs hp11 hW => ?_)
              have hq11 : (q11 = some (elt E P 22 m6.toNatClampNeg)) := hp11
              clear hp11
              have hW : WB g A s.heap H locs (J, (hv (hv L [47] [] u7) [47] [] Ml8), (hv (hv I [] [(6, 6), (6, 7)] u3) [] [(6, 6), (6, 7)] u6), P, E, N) (sgX g ++ dy) := hW
              subst hq11
              obtain ⟨o11, ho11⟩ : ∃ z : Nat, z = elt E P 22 m6.toNatClampNeg := ⟨_, rfl⟩
              have hm11 : (2, o11) ∈ dy := by rw [ho11]; exact (lw_mem (er := 2) hwf.1.2.2.1 (show (m6.toNatClampNeg : Int) < (J 22 2).toInt from by have := tcl m6; omega))
              refine lv_asv (v' := .ref o11) (by rw [ho11]; rfl) ?_
              refine g_cast C hW (List.mem_append_right _ hm11) rfl rfl tw_580 dX3_findListeners_113 ?_
              refine lv_astore (lv' := [(7, .ref o11), (6, .int m6), (4, .long m4), (0, .ref (g.2.2.1 4)), (1, .ref a0), (2, .int a1), (3, .int a2)]) hx hb dX3_findListeners_116 hl (by decide) rfl (fun ls hl => ?_)
              refine lv_lload hx hb dX3_findListeners_118 (lv_at hl 2 rfl) ?_
              refine lv_iload hx hb dX3_findListeners_120 (lv_at hl 1 rfl) ?_
              refine lv_lshr hx hb dX3_findListeners_122 rfl ?_
              refine lv_topl (fun z12 ez12 => ?_)
              refine lv_lconst (v := 1) hx hb dX3_findListeners_123 (by decide) ?_
              refine lv_land hx hb dX3_findListeners_124 ?_
              refine lv_topl (fun z13 ez13 => ?_)
              refine lv_lconst (v := 0) hx hb dX3_findListeners_125 (by decide) ?_
              refine W.lcmp hx hb dX3_findListeners_126 ?_
              refine lv_topi (fun x14 (e14 : x14 = lg_cmp z13 (0 : Int64)) => ?_)
              have hsr := lb_shr (i := m6) (by omega) (by omega) ez12 ez13 e14
              have hbb := hhb9 m6.toInt.toNat (by omega)
              refine lv_if_eq (tgt := 155) hx hb dX3_findListeners_127 (by decide) (fun c15 => ?_) (fun c15 => ?_)
              · have c15 : x14.toInt = 0 := teq rfl kp0 c15
                have hHB : ¬ 0 < (HF (I 9 2 a0) (J 110) (J 111) a1.toInt (J 4 5) (J 109) (J 108) (fun k => (hv I [] [(6, 6), (6, 7)] u3) 6 7 (elt E P 20 k))) m6.toInt.toNat := fun q => (hsr.mp (by omega)) (hbb.mpr ⟨by omega, q⟩)
                obtain ⟨x16, e16⟩ : ∃ y : Int32, y = m6 + 1 := ⟨_, rfl⟩
                refine lv_iinc (v := x16) (lv' := [(6, .int x16), (7, .ref o11), (4, .long m4), (0, .ref (g.2.2.1 4)), (1, .ref a0), (2, .int a1), (3, .int a2)]) hx hb dX3_findListeners_155 hl (k := 1) rfl (by rw [e16]; rfl) (by decide) rfl (fun ls hl => ?_)
                try have t16 : x16.toInt = m6.toInt + 1 := tadd e16 rfl kp1 (by omega)
                refine lv_goto (tgt := 92) hx hb dX3_findListeners_158 (by decide) ?_
                have hWl : WB g A s.heap H locs (J, (hv (hv L [47] [] u7) [47] [] (hv (hv L [47] [] u7) [47] [] Ml8)), (hv (hv I [] [(6, 6), (6, 7)] u3) [] [(6, 6), (6, 7)] u6), P, E, N) (sgX g ++ dy) := by
                  rw [← ag_hvE (J := (hv L [47] [] u7)) (R := [47]) (F := []) (ag_hv rfl rfl ag_rf)]
                  exact hW
                refine ih92 x16 (hv (hv L [47] [] u7) [47] [] Ml8) H locs ls ?_ ?_ ?_ hWl (lv_sub hl [0, 2, 3, 4, 5, 6] rfl)
                · show ((J 22 2).toInt - x16.toInt).toNat < n92
                  omega
                · show 0 ≤ x16.toInt ∧ x16.toInt ≤ (J 22 2).toInt
                  first | omega | exact hi | assumption
                · show LSTN ((hv (hv L [47] [] u7) [47] [] Ml8) 47) (J 110) (LSP (I 9 2 a0) (J 110) (J 111) a1.toInt (J 4 5) (J 109) (J 108) (fun k => (hv I [] [(6, 6), (6, 7)] u3) 6 7 (elt E P 20 k)) (fun k => (hv (hv I [] [(6, 6), (6, 7)] u3) [] [(6, 6), (6, 7)] u6) 6 7 (elt E P 20 k))) x16.toInt
                  exact ls_no (i := m6.toNatClampNeg) hls (by have h8 := tcl m6; omega) (by omega) (fun q => hHB q.1)
              · have c15 : ¬ x14.toInt = 0 := tne rfl kp0 c15
                have hHB : 0 < (HF (I 9 2 a0) (J 110) (J 111) a1.toInt (J 4 5) (J 109) (J 108) (fun k => (hv I [] [(6, 6), (6, 7)] u3) 6 7 (elt E P 20 k))) m6.toInt.toNat := (hbb.mp (Decidable.of_not_not (fun z => by have := hsr.mpr z; omega))).2
                refine lv_aload hx hb dX3_findListeners_130 (lv_at hl 0 rfl) ?_
                refine lv_aload_n hx hb dX3_findListeners_132 rfl (lv_at hl 3 rfl) ?_
                refine rg_4_5 C hW (mx_ rfl) tw_242 dX3_findListeners_133 ?_
                refine ci_ C hW (runV (x := o11) (As := [.int (J 4 5)]) (rest := []) (T := ((J, (hv (hv L [47] [] u7) [47] [] Ml8), (hv (hv I [] [(6, 6), (6, 7)] u3) [] [(6, 6), (6, 7)] u6), P, E, N), sgX g ++ dy)) C hW (c_X1_isReached_e l g J (hv (hv L [47] [] u7) [47] [] Ml8) (hv (hv I [] [(6, 6), (6, 7)] u3) [] [(6, 6), (6, 7)] u6) P E N dy H.size o11 hm11 (J 4 5) hwf) mi_X1_isReached tw_721 (recv_ (T := ((J, (hv (hv L [47] [] u7) [47] [] Ml8), (hv (hv I [] [(6, 6), (6, 7)] u3) [] [(6, 6), (6, 7)] u6), P, E, N), sgX g ++ dy)) C hW (List.mem_append_right _ hm11) rfl rfl) ⟨rfl, rfl, Nat.le_of_ble_eq_true rfl, Nat.le_of_ble_eq_true rfl⟩ rfl hl.1 rfl (Nat.le_of_ble_eq_true rfl) dX3_findListeners_136 ⟨Nat.le_of_ble_eq_true rfl, Nat.le_of_ble_eq_true rfl⟩) (fun r17 u17 H locs hp17 hW => ?_)
                have hf17_0 : (∀ b : Nat, P 2 0 o11 = some b → ((r17.toInt : Int) = 1 ∧ ((J 4 5) * (hv (hv I [] [(6, 6), (6, 7)] u3) [] [(6, 6), (6, 7)] u6) 2 1 o11).toInt ≤ ((hv (hv I [] [(6, 6), (6, 7)] u3) [] [(6, 6), (6, 7)] u6) 6 7 b).toInt) ∨ ((r17.toInt : Int) = 0 ∧ ((hv (hv I [] [(6, 6), (6, 7)] u3) [] [(6, 6), (6, 7)] u6) 6 7 b).toInt < ((J 4 5) * (hv (hv I [] [(6, 6), (6, 7)] u3) [] [(6, 6), (6, 7)] u6) 2 1 o11).toInt)) := hp17
                clear hp17
                have hW : WB g A s.heap H locs (J, (hv (hv L [47] [] u7) [47] [] Ml8), (hv (hv I [] [(6, 6), (6, 7)] u3) [] [(6, 6), (6, 7)] u6), P, E, N) (sgX g ++ dy) := hW
                have hRC := hf17_0
                obtain ⟨h91, -, -, h94, h95, h96, -⟩ := hhm m6.toNatClampNeg (by have h8 := tcl m6; omega)
                rw [← ho11] at h91 h94 h95 h96
                have hb9 := hRC _ h91
                rw [show (hv (hv I [] [(6, 6), (6, 7)] u3) [] [(6, 6), (6, 7)] u6) 2 1 o11 = J 109 m6.toNatClampNeg from h94] at hb9
                refine lv_if_eq (tgt := 155) hx hb dX3_findListeners_139 (by decide) (fun c18 => ?_) (fun c18 => ?_)
                · have c18 : r17.toInt = 0 := teq rfl kp0 c18
                  obtain ⟨x19, e19⟩ : ∃ y : Int32, y = m6 + 1 := ⟨_, rfl⟩
                  refine lv_iinc (v := x19) (lv' := [(6, .int x19), (7, .ref o11), (4, .long m4), (0, .ref (g.2.2.1 4)), (1, .ref a0), (2, .int a1), (3, .int a2)]) hx hb dX3_findListeners_155 hl (k := 1) rfl (by rw [e19]; rfl) (by decide) rfl (fun ls hl => ?_)
                  try have t19 : x19.toInt = m6.toInt + 1 := tadd e19 rfl kp1 (by omega)
                  refine lv_goto (tgt := 92) hx hb dX3_findListeners_158 (by decide) ?_
                  have hWl : WB g A s.heap H locs (J, (hv (hv L [47] [] u7) [47] [] (hv (hv L [47] [] u7) [47] [] Ml8)), (hv (hv I [] [(6, 6), (6, 7)] u3) [] [(6, 6), (6, 7)] u6), P, E, N) (sgX g ++ dy) := by
                    rw [← ag_hvE (J := (hv L [47] [] u7)) (R := [47]) (F := []) (ag_hv rfl rfl ag_rf)]
                    exact hW
                  refine ih92 x19 (hv (hv L [47] [] u7) [47] [] Ml8) H locs ls ?_ ?_ ?_ hWl (lv_sub hl [0, 2, 3, 4, 5, 6] rfl)
                  · show ((J 22 2).toInt - x19.toInt).toNat < n92
                    omega
                  · show 0 ≤ x19.toInt ∧ x19.toInt ≤ (J 22 2).toInt
                    first | omega | exact hi | assumption
                  · show LSTN ((hv (hv L [47] [] u7) [47] [] Ml8) 47) (J 110) (LSP (I 9 2 a0) (J 110) (J 111) a1.toInt (J 4 5) (J 109) (J 108) (fun k => (hv I [] [(6, 6), (6, 7)] u3) 6 7 (elt E P 20 k)) (fun k => (hv (hv I [] [(6, 6), (6, 7)] u3) [] [(6, 6), (6, 7)] u6) 6 7 (elt E P 20 k))) x19.toInt
                    exact ls_no (i := m6.toNatClampNeg) hls (by have h8 := tcl m6; omega) (by omega) (fun q => hb9.elim (fun z => absurd z.1 (by omega)) (fun z => Int.not_le.mpr z.2 q.2))
                · have c18 : ¬ r17.toInt = 0 := tne rfl kp0 c18
                  refine lv_aload_n hx hb dX3_findListeners_142 rfl (lv_at hl 3 rfl) ?_
                  refine lv_aload hx hb dX3_findListeners_143 (lv_at hl 0 rfl) ?_
                  refine rg_2_2 C hW (List.mem_append_right _ hm11) tw_552 dX3_findListeners_145 ?_
                  refine lv_topi (fun x20 (e20 : x20 = I 2 2 o11) => ?_)
                  have t20 : x20.toInt = (I 2 2 o11).toInt := by rw [e20]
                  refine lv_lconst (v := 1) hx hb dX3_findListeners_148 (by decide) ?_
                  refine lv_iload hx hb dX3_findListeners_149 (lv_at hl 1 rfl) ?_
                  refine lv_lshl hx hb dX3_findListeners_151 rfl ?_
                  refine lv_topl (fun z21 ez21 => ?_)
                  refine cv_ C hW (runV (x := (g.2.2.1 4)) (As := [.int x20, .long z21]) (rest := []) (T := ((J, (hv (hv L [47] [] u7) [47] [] Ml8), (hv (hv I [] [(6, 6), (6, 7)] u3) [] [(6, 6), (6, 7)] u6), P, E, N), sgX g ++ dy)) C hW (c_X3_addListener_e l g J (hv (hv L [47] [] u7) [47] [] Ml8) (hv (hv I [] [(6, 6), (6, 7)] u3) [] [(6, 6), (6, 7)] u6) P E N dy H.size x20 z21 ) mi_X3_addListener tw_909 (recv_ (T := ((J, (hv (hv L [47] [] u7) [47] [] Ml8), (hv (hv I [] [(6, 6), (6, 7)] u3) [] [(6, 6), (6, 7)] u6), P, E, N), sgX g ++ dy)) C hW (mx_ rfl) rfl rfl) ⟨rfl, rfl, Nat.le_of_ble_eq_true rfl, Nat.le_of_ble_eq_true rfl⟩ rfl hl.1 rfl (Nat.le_of_ble_eq_true rfl) dX3_findListeners_152 ⟨Nat.le_of_ble_eq_true rfl, Nat.le_of_ble_eq_true rfl⟩) (fun u22 H locs hp22 hW => ?_)
                  have hf22_0 : (ADDL ((hv (hv L [47] [] u7) [47] [] Ml8) 47) (u22 47) x20 z21 24) := hp22
                  clear hp22
                  have hW : WB g A s.heap H locs (J, (hv (hv (hv L [47] [] u7) [47] [] Ml8) [47] [] u22), (hv (hv I [] [(6, 6), (6, 7)] u3) [] [(6, 6), (6, 7)] u6), P, E, N) (sgX g ++ dy) := hW
                  have hAD := hf22_0
                  obtain ⟨x23, e23⟩ : ∃ y : Int32, y = m6 + 1 := ⟨_, rfl⟩
                  refine lv_iinc (v := x23) (lv' := [(6, .int x23), (7, .ref o11), (4, .long m4), (0, .ref (g.2.2.1 4)), (1, .ref a0), (2, .int a1), (3, .int a2)]) hx hb dX3_findListeners_155 hl (k := 1) rfl (by rw [e23]; rfl) (by decide) rfl (fun ls hl => ?_)
                  try have t23 : x23.toInt = m6.toInt + 1 := tadd e23 rfl kp1 (by omega)
                  refine lv_goto (tgt := 92) hx hb dX3_findListeners_158 (by decide) ?_
                  have hWl : WB g A s.heap H locs (J, (hv (hv L [47] [] u7) [47] [] (hv (hv (hv L [47] [] u7) [47] [] Ml8) [47] [] u22)), (hv (hv I [] [(6, 6), (6, 7)] u3) [] [(6, 6), (6, 7)] u6), P, E, N) (sgX g ++ dy) := by
                    rw [← ag_hvE (J := (hv L [47] [] u7)) (R := [47]) (F := []) (ag_hv rfl rfl (ag_hv rfl rfl ag_rf))]
                    exact hW
                  refine ih92 x23 (hv (hv (hv L [47] [] u7) [47] [] Ml8) [47] [] u22) H locs ls ?_ ?_ ?_ hWl (lv_sub hl [0, 2, 3, 4, 5, 6] rfl)
                  · show ((J 22 2).toInt - x23.toInt).toNat < n92
                    omega
                  · show 0 ≤ x23.toInt ∧ x23.toInt ≤ (J 22 2).toInt
                    first | omega | exact hi | assumption
                  · show LSTN ((hv (hv (hv L [47] [] u7) [47] [] Ml8) [47] [] u22) 47) (J 110) (LSP (I 9 2 a0) (J 110) (J 111) a1.toInt (J 4 5) (J 109) (J 108) (fun k => (hv I [] [(6, 6), (6, 7)] u3) 6 7 (elt E P 20 k)) (fun k => (hv (hv I [] [(6, 6), (6, 7)] u3) [] [(6, 6), (6, 7)] u6) 6 7 (elt E P 20 k))) x23.toInt
                    exact ls_yes (i := m6.toNatClampNeg) (m := m6) hls (by have h8 := tcl m6; omega) rfl (by omega) (by omega) ⟨hHB, hb9.elim (fun q => q.2) (fun q => absurd q.1 (by omega))⟩ (e20.trans h95) (by rw [ez21] at hAD; exact hAD) (by omega)
        -- into the loop
        have hWl : WB g A s.heap H locs (J, (hv (hv L [47] [] u7) [47] [] (hv L [47] [] u7)), (hv (hv I [] [(6, 6), (6, 7)] u3) [] [(6, 6), (6, 7)] u6), P, E, N) (sgX g ++ dy) := by
          rw [← ag_hvE (J := (hv L [47] [] u7)) (R := [47]) (F := []) ag_rf]
          exact hW
        refine loop92 (((J 22 2).toInt - (0 : Int32).toInt).toNat + 1) 0 (hv L [47] [] u7) H locs ls ?_ ?_ ?_ hWl (lv_sub hl [0, 1, 2, 3, 4, 5] rfl)
        · exact Nat.lt_succ_self _
        · show 0 ≤ (0 : Int32).toInt ∧ (0 : Int32).toInt ≤ (J 22 2).toInt
          try rw [kp0]
          first | omega | exact hi | assumption
        · show LSTN ((hv L [47] [] u7) 47) (J 110) (LSP (I 9 2 a0) (J 110) (J 111) a1.toInt (J 4 5) (J 109) (J 108) (fun k => (hv I [] [(6, 6), (6, 7)] u3) 6 7 (elt E P 20 k)) (fun k => (hv (hv I [] [(6, 6), (6, 7)] u3) [] [(6, 6), (6, 7)] u6) 6 7 (elt E P 20 k))) (0 : Int32).toInt
          try rw [kp0]
          exact ls_0 (by first | rfl | exact kp0) hFL
      · have c5 : m6.toInt < (J 22 2).toInt := tnle rfl rfl c5
        refine lv_lload hx hb dX3_findListeners_31 (lv_at hl 1 rfl) ?_
        refine lv_aload_n hx hb dX3_findListeners_33 rfl (lv_at hl 2 rfl) ?_
        refine lv_aload_n hx hb dX3_findListeners_34 rfl (lv_at hl 2 rfl) ?_
        refine rg_4_2 C hW (mx_ rfl) tw_236 dX3_findListeners_35 ?_
        refine lv_iload hx hb dX3_findListeners_38 (lv_at hl 0 rfl) ?_
        refine cq_ C hW (runV (x := (g.2.2.1 22)) (As := [.int m6]) (rest := [.ref (g.2.2.1 4), .long m4]) (T := ((J, L, (hv I [] [(6, 6), (6, 7)] u3), P, E, N), sgX g ++ dy)) C hW ((c_Jx4a65c_get_915e3 2) l g J L (hv I [] [(6, 6), (6, 7)] u3) P E N dy H.size 22 rfl m6 (show LWF g J P E N dy 22 2 from hwf.1.2.2.1) (show 0 ≤ m6.toInt ∧ m6.toInt < (J 22 2).toInt from by omega)) mi_Jx4a65c_get_915e3 tw_471 (recv_ (T := ((J, L, (hv I [] [(6, 6), (6, 7)] u3), P, E, N), sgX g ++ dy)) C hW (mx_ rfl) (cel_list rfl) rfl) ⟨rfl, rfl, Nat.le_of_ble_eq_true rfl, Nat.le_of_ble_eq_true rfl⟩ rfl hl.1 rfl (Nat.le_of_ble_eq_true rfl) dX3_findListeners_40 ⟨Nat.le_of_ble_eq_true rfl, Nat.le_of_ble_eq_true rfl⟩) (fun q24 u24 H locs hp24 hW => ?_)
        have hq24 : (q24 = some (elt E P 22 m6.toNatClampNeg)) := hp24
        clear hp24
        have hW : WB g A s.heap H locs (J, L, (hv I [] [(6, 6), (6, 7)] u3), P, E, N) (sgX g ++ dy) := hW
        subst hq24
        obtain ⟨o24, ho24⟩ : ∃ z : Nat, z = elt E P 22 m6.toNatClampNeg := ⟨_, rfl⟩
        have hm24 : (2, o24) ∈ dy := by rw [ho24]; exact (lw_mem (er := 2) hwf.1.2.2.1 (show (m6.toNatClampNeg : Int) < (J 22 2).toInt from by have := tcl m6; omega))
        refine lv_asv (v' := .ref o24) (by rw [ho24]; rfl) ?_
        refine g_cast C hW (List.mem_append_right _ hm24) rfl rfl tw_580 dX3_findListeners_43 ?_
        refine lv_aload_n hx hb dX3_findListeners_46 rfl (lv_at hl 3 rfl) ?_
        refine lv_iload_n hx hb dX3_findListeners_47 rfl (lv_at hl 4 rfl) ?_
        refine ci_ C hW (runV (x := (g.2.2.1 4)) (As := [.ref o24, .ref a0, .int a1]) (rest := [.long m4]) (T := ((J, L, (hv I [] [(6, 6), (6, 7)] u3), P, E, N), sgX g ++ dy)) C hW (c_X3_howHeard_e l g J L (hv I [] [(6, 6), (6, 7)] u3) P E N dy H.size o24 hm24 a0 hm0 a1 hwf (show 0 ≤ a1.toInt ∧ a1.toInt ≤ 9999 from by omega)) mi_X3_howHeard tw_717 (recv_ (T := ((J, L, (hv I [] [(6, 6), (6, 7)] u3), P, E, N), sgX g ++ dy)) C hW (mx_ rfl) rfl rfl) ⟨rfl, rfl, Nat.le_of_ble_eq_true rfl, Nat.le_of_ble_eq_true rfl⟩ rfl hl.1 rfl (Nat.le_of_ble_eq_true rfl) dX3_findListeners_48 ⟨Nat.le_of_ble_eq_true rfl, Nat.le_of_ble_eq_true rfl⟩) (fun r25 u25 H locs hp25 hW => ?_)
        have hf25_0 : (∀ b : Nat, P 2 0 o24 = some b → r25.toInt = HWV ((hv I [] [(6, 6), (6, 7)] u3) 9 2 a0) ((hv I [] [(6, 6), (6, 7)] u3) 2 2 o24) ((hv I [] [(6, 6), (6, 7)] u3) 2 3 o24) a1.toInt (J 4 5 * (hv I [] [(6, 6), (6, 7)] u3) 2 1 o24).toInt ((hv I [] [(6, 6), (6, 7)] u3) 6 7 b).toInt) := hp25
        clear hp25
        have hW : WB g A s.heap H locs (J, L, (hv I [] [(6, 6), (6, 7)] u3), P, E, N) (sgX g ++ dy) := hW
        have hH := hf25_0
        obtain ⟨h91, -, -, h94, h95, h96, -⟩ := hhm m6.toNatClampNeg (by have h8 := tcl m6; omega)
        rw [← ho24] at h91 h94 h95 h96
        have hf9 := hH _ h91
        rw [show (hv I [] [(6, 6), (6, 7)] u3) 2 2 o24 = J 110 m6.toNatClampNeg from h95, show (hv I [] [(6, 6), (6, 7)] u3) 2 3 o24 = J 111 m6.toNatClampNeg from h96, show (hv I [] [(6, 6), (6, 7)] u3) 2 1 o24 = J 109 m6.toNatClampNeg from h94] at hf9
        have hf9 : r25.toInt = (HF (I 9 2 a0) (J 110) (J 111) a1.toInt (J 4 5) (J 109) (J 108) (fun k => (hv I [] [(6, 6), (6, 7)] u3) 6 7 (elt E P 20 k))) m6.toInt.toNat := hf9
        refine lv_if_le (tgt := 61) hx hb dX3_findListeners_51 (by decide) (fun c26 => ?_) (fun c26 => ?_)
        · have c26 : r25.toInt ≤ 0 := tle rfl kp0 c26
          refine lv_lconst (v := 0) hx hb dX3_findListeners_61 (by decide) ?_
          refine lv_lor hx hb dX3_findListeners_62 ?_
          refine lv_topl (fun z27 ez27 => ?_)
          refine lv_lstore (lv' := [(4, .long z27), (6, .int m6), (0, .ref (g.2.2.1 4)), (1, .ref a0), (2, .int a1), (3, .int a2)]) hx hb dX3_findListeners_63 hl (by decide) rfl (fun ls hl => ?_)
          obtain ⟨x28, e28⟩ : ∃ y : Int32, y = m6 + 1 := ⟨_, rfl⟩
          refine lv_iinc (v := x28) (lv' := [(6, .int x28), (4, .long z27), (0, .ref (g.2.2.1 4)), (1, .ref a0), (2, .int a1), (3, .int a2)]) hx hb dX3_findListeners_65 hl (k := 1) rfl (by rw [e28]; rfl) (by decide) rfl (fun ls hl => ?_)
          try have t28 : x28.toInt = m6.toInt + 1 := tadd e28 rfl kp1 (by omega)
          refine lv_goto (tgt := 19) hx hb dX3_findListeners_68 (by decide) ?_
          refine ih z27 x28 H locs ls ?_ ?_ ?_ hW (lv_sub hl [0, 1, 2, 3, 4, 5] rfl)
          · show ((J 22 2).toInt - x28.toInt).toNat < n
            omega
          · show 0 ≤ x28.toInt ∧ x28.toInt ≤ (J 22 2).toInt
            first | omega | exact hi | assumption
          · show HBB z27 (fun h => 0 < (HF (I 9 2 a0) (J 110) (J 111) a1.toInt (J 4 5) (J 109) (J 108) (fun k => (hv I [] [(6, 6), (6, 7)] u3) 6 7 (elt E P 20 k))) h) x28.toInt
            first | exact hb_y hhb rfl (by omega) (by omega) (by omega) ez27 ez27 (by show 0 < _; omega) | exact hb_n hhb rfl (by omega) (by omega) ez27 (by show ¬ 0 < _; omega)
        · have c26 : 0 < r25.toInt := tnle rfl kp0 c26
          refine lv_lconst (v := 1) hx hb dX3_findListeners_54 (by decide) ?_
          refine lv_iload hx hb dX3_findListeners_55 (lv_at hl 0 rfl) ?_
          refine lv_lshl hx hb dX3_findListeners_57 rfl ?_
          refine lv_topl (fun z29 ez29 => ?_)
          refine lv_goto (tgt := 62) hx hb dX3_findListeners_58 (by decide) ?_
          refine lv_lor hx hb dX3_findListeners_62 ?_
          refine lv_topl (fun z30 ez30 => ?_)
          refine lv_lstore (lv' := [(4, .long z30), (6, .int m6), (0, .ref (g.2.2.1 4)), (1, .ref a0), (2, .int a1), (3, .int a2)]) hx hb dX3_findListeners_63 hl (by decide) rfl (fun ls hl => ?_)
          obtain ⟨x31, e31⟩ : ∃ y : Int32, y = m6 + 1 := ⟨_, rfl⟩
          refine lv_iinc (v := x31) (lv' := [(6, .int x31), (4, .long z30), (0, .ref (g.2.2.1 4)), (1, .ref a0), (2, .int a1), (3, .int a2)]) hx hb dX3_findListeners_65 hl (k := 1) rfl (by rw [e31]; rfl) (by decide) rfl (fun ls hl => ?_)
          try have t31 : x31.toInt = m6.toInt + 1 := tadd e31 rfl kp1 (by omega)
          refine lv_goto (tgt := 19) hx hb dX3_findListeners_68 (by decide) ?_
          refine ih z30 x31 H locs ls ?_ ?_ ?_ hW (lv_sub hl [0, 1, 2, 3, 4, 5] rfl)
          · show ((J 22 2).toInt - x31.toInt).toNat < n
            omega
          · show 0 ≤ x31.toInt ∧ x31.toInt ≤ (J 22 2).toInt
            first | omega | exact hi | assumption
          · show HBB z30 (fun h => 0 < (HF (I 9 2 a0) (J 110) (J 111) a1.toInt (J 4 5) (J 109) (J 108) (fun k => (hv I [] [(6, 6), (6, 7)] u3) 6 7 (elt E P 20 k))) h) x31.toInt
            first | exact hb_y hhb rfl (by omega) (by omega) (by omega) ez29 ez30 (by show 0 < _; omega) | exact hb_n hhb rfl (by omega) (by omega) ez30 (by show ¬ 0 < _; omega)
  -- into the loop
  refine loop19 (((J 22 2).toInt - (0 : Int32).toInt).toNat + 1) (0 : Int64) 0 H locs ls ?_ ?_ ?_ hW (lv_sub hl [0, 1, 2, 3, 4, 5] rfl)
  · exact Nat.lt_succ_self _
  · show 0 ≤ (0 : Int32).toInt ∧ (0 : Int32).toInt ≤ (J 22 2).toInt
    try rw [kp0]
    first | omega | exact hi | assumption
  · show HBB (0 : Int64) (fun h => 0 < (HF (I 9 2 a0) (J 110) (J 111) a1.toInt (J 4 5) (J 109) (J 108) (fun k => (hv I [] [(6, 6), (6, 7)] u3) 6 7 (elt E P 20 k))) h) (0 : Int32).toInt
    try rw [kp0]
    exact hb_0 (by first | rfl | exact kp0)

set_option maxHeartbeats 4000000 in
set_option maxRecDepth 100000 in
theorem c_X11_correctionRefusal_e (l : Launch) (g : gG) (J : Nat → Nat → Int32) (L : Nat → Nat → Int64) (I : Nat → Nat → Nat → Int32) (P : Nat → Nat → Nat → Option Nat) (E : Nat → Option Nat) (N : Nat → Nat) (dy : List (Nat × Nat)) (sz : Nat) (a0 : Nat) (hm0 : (9, a0) ∈ dy) (a1 : Int32) (a2 : Int32)  : Met l yX11_correctionRefusal (WS yX11_correctionRefusal cX11_correctionRefusal 3 (some .int)) (RM (1) 0 0) (PC g [.ref a0, .int a1, .int a2] ((J, L, I, P, E, N), sgX g ++ dy) sz) (va_Qi (fun (r : Int32) (u : Unit) => ((r.toInt = (-4) ∧ (a1.toInt < 0 ∨ a2.toInt < 1)) ∨ (r.toInt = (-6) ∧ (0 ≤ a1.toInt ∧ 1 ≤ a2.toInt ∧ (16777215 < a1.toInt ∨ 999 < a2.toInt))) ∨ (r.toInt = 0 ∧ (0 ≤ a1.toInt ∧ a1.toInt ≤ 16777215 ∧ 1 ≤ a2.toInt ∧ a2.toInt ≤ 999)))) (fun u t => at_ g (FR g ((J, L, I, P, E, N), sgX g ++ dy) sz) ((J, L, I, P, E, N), sgX g ++ dy) t) (FR g ((J, L, I, P, E, N), sgX g ++ dy) sz)) 0 0 (FR g ((J, L, I, P, E, N), sgX g ++ dy) sz) := by
  refine ent (by decide +kernel) (Nat.le_of_ble_eq_true rfl) ?_
  intro p e s m below meth c ls hsz C hW hr hlocks hname hl
  generalize FR g ((J, L, I, P, E, N), sgX g ++ dy) sz = A at C hW ⊢
  generalize hQ9 : (va_Qi (fun (r : Int32) (u : Unit) => ((r.toInt = (-4) ∧ (a1.toInt < 0 ∨ a2.toInt < 1)) ∨ (r.toInt = (-6) ∧ (0 ≤ a1.toInt ∧ 1 ≤ a2.toInt ∧ (16777215 < a1.toInt ∨ 999 < a2.toInt))) ∨ (r.toInt = 0 ∧ (0 ≤ a1.toInt ∧ a1.toInt ≤ 16777215 ∧ 1 ≤ a2.toInt ∧ a2.toInt ≤ 999)))) (fun u t => at_ g A ((J, L, I, P, E, N), sgX g ++ dy) t) A) = Q9
  have hx := C.1.1
  have hb := C.1.2.1
  have hts := C.1.2.2.2.2
  have hl : lv_has ls 3 [(0, .ref a0), (1, .int a1), (2, .int a2)] := hl
  obtain ⟨H, hH⟩ : ∃ H : Heap, H = s.heap := ⟨_, rfl⟩
  obtain ⟨locs, hlocs⟩ : ∃ q : List Loc, q = [] := ⟨_, rfl⟩
  have hW : WB g A s.heap H locs (J, L, I, P, E, N) (sgX g ++ dy) := by rw [hH, hlocs]; exact hW
  refine start_ hH hlocs ?_
  refine lv_aload_n hx hb dX11_correctionRefusal_0 rfl (lv_at hl 0 rfl) ?_
  refine lv_ifnonnull (tgt := 6) hx hb dX11_correctionRefusal_1 (by decide) ?_
  refine lv_iload_n hx hb dX11_correctionRefusal_6 rfl (lv_at hl 1 rfl) ?_
  refine lv_if_lt (tgt := 15) hx hb dX11_correctionRefusal_7 (by decide) (fun c1 => ?_) (fun c1 => ?_)
  · have c1 : a1.toInt < 0 := tlt rfl kp0 c1
    refine lv_bipush (v := (-4)) hx hb dX11_correctionRefusal_15 (by decide) ?_
    subst hQ9
    exact end_i C hr hlocks () hW (by first | exact Or.inl ⟨by decide, by omega⟩) dX11_correctionRefusal_17
  · have c1 : 0 ≤ a1.toInt := tnlt rfl kp0 c1
    refine lv_iload_n hx hb dX11_correctionRefusal_10 rfl (lv_at hl 2 rfl) ?_
    refine lv_iconst (v := 1) hx hb dX11_correctionRefusal_11 (by decide) ?_
    refine lv_icmp_ge (tgt := 18) hx hb dX11_correctionRefusal_12 (by decide) (fun c2 => ?_) (fun c2 => ?_)
    · have c2 : 1 ≤ a2.toInt := tle kp1 rfl c2
      refine lv_iload_n hx hb dX11_correctionRefusal_18 rfl (lv_at hl 1 rfl) ?_
      refine lv_ldc hx hb C.1.2.2.2.1 (hts _ tw_541) dX11_correctionRefusal_19 ?_
      refine lv_icmp_gt (tgt := 31) hx hb dX11_correctionRefusal_21 (by decide) (fun c3 => ?_) (fun c3 => ?_)
      · have c3 : 16777215 < a1.toInt := tlt kp16777215 rfl c3
        refine lv_bipush (v := (-6)) hx hb dX11_correctionRefusal_31 (by decide) ?_
        refine lv_goto (tgt := 37) hx hb dX11_correctionRefusal_33 (by decide) ?_
        subst hQ9
        exact end_i C hr hlocks () hW (by first | exact Or.inr (Or.inl ⟨by decide, by omega⟩)) dX11_correctionRefusal_37
      · have c3 : a1.toInt ≤ 16777215 := tnlt kp16777215 rfl c3
        refine lv_iload_n hx hb dX11_correctionRefusal_24 rfl (lv_at hl 2 rfl) ?_
        refine lv_sipush (v := 999) hx hb dX11_correctionRefusal_25 (by decide) ?_
        refine lv_icmp_le (tgt := 36) hx hb dX11_correctionRefusal_28 (by decide) (fun c4 => ?_) (fun c4 => ?_)
        · have c4 : a2.toInt ≤ 999 := tle rfl kp999 c4
          refine lv_iconst (v := 0) hx hb dX11_correctionRefusal_36 (by decide) ?_
          subst hQ9
          exact end_i C hr hlocks () hW (by first | exact Or.inr (Or.inr (⟨by decide, by omega⟩))) dX11_correctionRefusal_37
        · have c4 : 999 < a2.toInt := tnle rfl kp999 c4
          refine lv_bipush (v := (-6)) hx hb dX11_correctionRefusal_31 (by decide) ?_
          refine lv_goto (tgt := 37) hx hb dX11_correctionRefusal_33 (by decide) ?_
          subst hQ9
          exact end_i C hr hlocks () hW (by first | exact Or.inr (Or.inl ⟨by decide, by omega⟩)) dX11_correctionRefusal_37
    · have c2 : a2.toInt < 1 := tnle kp1 rfl c2
      refine lv_bipush (v := (-4)) hx hb dX11_correctionRefusal_15 (by decide) ?_
      subst hQ9
      exact end_i C hr hlocks () hW (by first | exact Or.inl ⟨by decide, by omega⟩) dX11_correctionRefusal_17

set_option maxHeartbeats 4000000 in
set_option maxRecDepth 100000 in
theorem c_X11_correctionRefusal_n_e (l : Launch) (g : gG) (J : Nat → Nat → Int32) (L : Nat → Nat → Int64) (I : Nat → Nat → Nat → Int32) (P : Nat → Nat → Nat → Option Nat) (E : Nat → Option Nat) (N : Nat → Nat) (dy : List (Nat × Nat)) (sz : Nat) (a1 : Int32) (a2 : Int32)  : Met l yX11_correctionRefusal (WS yX11_correctionRefusal cX11_correctionRefusal 3 (some .int)) (RM (1) 0 0) (PC g [.null, .int a1, .int a2] ((J, L, I, P, E, N), sgX g ++ dy) sz) (va_Qi (fun (r : Int32) (u : Unit) => ((r.toInt = (-1)))) (fun u t => at_ g (FR g ((J, L, I, P, E, N), sgX g ++ dy) sz) ((J, L, I, P, E, N), sgX g ++ dy) t) (FR g ((J, L, I, P, E, N), sgX g ++ dy) sz)) 0 0 (FR g ((J, L, I, P, E, N), sgX g ++ dy) sz) := by
  refine ent (by decide +kernel) (Nat.le_of_ble_eq_true rfl) ?_
  intro p e s m below meth c ls hsz C hW hr hlocks hname hl
  generalize FR g ((J, L, I, P, E, N), sgX g ++ dy) sz = A at C hW ⊢
  generalize hQ9 : (va_Qi (fun (r : Int32) (u : Unit) => ((r.toInt = (-1)))) (fun u t => at_ g A ((J, L, I, P, E, N), sgX g ++ dy) t) A) = Q9
  have hx := C.1.1
  have hb := C.1.2.1
  have hts := C.1.2.2.2.2
  have hl : lv_has ls 3 [(0, .null), (1, .int a1), (2, .int a2)] := hl
  obtain ⟨H, hH⟩ : ∃ H : Heap, H = s.heap := ⟨_, rfl⟩
  obtain ⟨locs, hlocs⟩ : ∃ q : List Loc, q = [] := ⟨_, rfl⟩
  have hW : WB g A s.heap H locs (J, L, I, P, E, N) (sgX g ++ dy) := by rw [hH, hlocs]; exact hW
  refine start_ hH hlocs ?_
  refine lv_aload_nN hx hb dX11_correctionRefusal_0 rfl (lv_at hl 0 rfl) ?_
  refine lv_ifnonnullN hx hb dX11_correctionRefusal_1 ?_
  refine lv_iconst (v := (-1)) hx hb dX11_correctionRefusal_4 (by decide) ?_
  subst hQ9
  exact end_i C hr hlocks () hW (by first | exact (by decide)) dX11_correctionRefusal_5

set_option maxHeartbeats 4000000 in
set_option maxRecDepth 100000 in
theorem c_X11_covers_e (l : Launch) (g : gG) (J : Nat → Nat → Int32) (L : Nat → Nat → Int64) (I : Nat → Nat → Nat → Int32) (P : Nat → Nat → Nat → Option Nat) (E : Nat → Option Nat) (N : Nat → Nat) (dy : List (Nat × Nat)) (sz : Nat) (a0 : Int32) (a1 : Int32) (a2 : Int32) (hwf : WXF g J P E N dy) (hnt : NTR (P 6 0) (elt E P 20) (J 101) (J 20 2).toInt) (hij : INJ E P 20 (J 20 2).toInt) (hcu : CUR (P 1 0) (I 1 1) (I 1 2) (elt E P 21) (elt E P 20) (J 105) (J 106) (J 107) (J 21 2).toInt (J 20 2).toInt) (hhm : HMR (P 2 0) (I 2 1) (I 2 2) (I 2 3) (elt E P 22) (elt E P 20) (J 108) (J 109) (J 110) (J 111) (J 22 2).toInt (J 20 2).toInt) (hspr : SPR I E P (J 27 2).toInt (J 3 1).toInt (J 116) (J 117) (J 118) (J 119) (J 120)) (hnw : (J 3 1).toInt ≤ 9999) (hn40 : (J 22 2).toInt ≤ 40) : Met l yX11_covers (WS yX11_covers cX11_covers 6 (some .int)) (RM (6) 0 0) (PC g [.ref (g.2.2.1 12), .int a0, .int a1, .int a2] ((J, L, I, P, E, N), sgX g ++ dy) sz) (va_Qi (fun (r : Int32) (u : (Nat → Nat → Int32) × (Nat → Nat → Int64) × (Nat → Nat → Nat → Int32)) => ((r.toInt = (-1) ∧ (¬ (0 ≤ a0.toInt ∧ a0.toInt < (J 3 1).toInt))) ∨ (r.toInt = (-4) ∧ ((0 ≤ a0.toInt ∧ a0.toInt < (J 3 1).toInt) ∧ (a1.toInt < 0 ∨ a2.toInt < 1))) ∨ (r.toInt = (-6) ∧ ((0 ≤ a0.toInt ∧ a0.toInt < (J 3 1).toInt) ∧ 0 ≤ a1.toInt ∧ 1 ≤ a2.toInt ∧ (16777215 < a1.toInt ∨ 999 < a2.toInt))) ∨ (r = r ∧ ((0 ≤ a0.toInt ∧ a0.toInt < (J 3 1).toInt) ∧ 0 ≤ a1.toInt ∧ a1.toInt ≤ 16777215 ∧ 1 ≤ a2.toInt ∧ a2.toInt ≤ 999) ∧ (∃ x x2 : Nat → Int32, SND x (J 101) (fun k => I 6 1 (elt E P 20 k)) (fun k => I 6 3 (elt E P 20 k)) (fun k => I 6 5 (elt E P 20 k)) (CUTP (J 105) (J 106) (J 107) (J 21 2).toInt a0.toInt) (J 118 a0.toNatClampNeg) (J 120 a0.toNatClampNeg) (J 20 2).toInt ∧ SND x2 (J 101) (fun k => I 6 1 (elt E P 20 k)) (fun k => I 6 3 (elt E P 20 k)) (fun k => I 6 5 (elt E P 20 k)) (CUTP (J 105) (J 106) (J 107) (J 21 2).toInt (-1 : Int32).toInt) a2 (J 4 4) (J 20 2).toInt ∧ r.toInt = ((CNT (fun h => LSP (J 116 a0.toNatClampNeg) (J 110) (J 111) a0.toInt (J 4 5) (J 109) (J 108) x x2 h ∧ HIT (J 110 h) a1) (J 22 2).toInt.toNat : Nat) : Int))))) (fun u t => at_ g (FR g ((J, L, I, P, E, N), sgX g ++ dy) sz) (((hv J [42] [] u.1), (hv L [47] [] u.2.1), (hv I [] [(6, 6), (6, 7)] u.2.2), P, E, N), sgX g ++ dy) t) (FR g ((J, L, I, P, E, N), sgX g ++ dy) sz)) 0 0 (FR g ((J, L, I, P, E, N), sgX g ++ dy) sz) := by
  refine ent (by decide +kernel) (Nat.le_of_ble_eq_true rfl) ?_
  intro p e s m below meth c ls hsz C hW hr hlocks hname hl
  generalize FR g ((J, L, I, P, E, N), sgX g ++ dy) sz = A at C hW ⊢
  generalize hQ9 : (va_Qi (fun (r : Int32) (u : (Nat → Nat → Int32) × (Nat → Nat → Int64) × (Nat → Nat → Nat → Int32)) => ((r.toInt = (-1) ∧ (¬ (0 ≤ a0.toInt ∧ a0.toInt < (J 3 1).toInt))) ∨ (r.toInt = (-4) ∧ ((0 ≤ a0.toInt ∧ a0.toInt < (J 3 1).toInt) ∧ (a1.toInt < 0 ∨ a2.toInt < 1))) ∨ (r.toInt = (-6) ∧ ((0 ≤ a0.toInt ∧ a0.toInt < (J 3 1).toInt) ∧ 0 ≤ a1.toInt ∧ 1 ≤ a2.toInt ∧ (16777215 < a1.toInt ∨ 999 < a2.toInt))) ∨ (r = r ∧ ((0 ≤ a0.toInt ∧ a0.toInt < (J 3 1).toInt) ∧ 0 ≤ a1.toInt ∧ a1.toInt ≤ 16777215 ∧ 1 ≤ a2.toInt ∧ a2.toInt ≤ 999) ∧ (∃ x x2 : Nat → Int32, SND x (J 101) (fun k => I 6 1 (elt E P 20 k)) (fun k => I 6 3 (elt E P 20 k)) (fun k => I 6 5 (elt E P 20 k)) (CUTP (J 105) (J 106) (J 107) (J 21 2).toInt a0.toInt) (J 118 a0.toNatClampNeg) (J 120 a0.toNatClampNeg) (J 20 2).toInt ∧ SND x2 (J 101) (fun k => I 6 1 (elt E P 20 k)) (fun k => I 6 3 (elt E P 20 k)) (fun k => I 6 5 (elt E P 20 k)) (CUTP (J 105) (J 106) (J 107) (J 21 2).toInt (-1 : Int32).toInt) a2 (J 4 4) (J 20 2).toInt ∧ r.toInt = ((CNT (fun h => LSP (J 116 a0.toNatClampNeg) (J 110) (J 111) a0.toInt (J 4 5) (J 109) (J 108) x x2 h ∧ HIT (J 110 h) a1) (J 22 2).toInt.toNat : Nat) : Int))))) (fun u t => at_ g A (((hv J [42] [] u.1), (hv L [47] [] u.2.1), (hv I [] [(6, 6), (6, 7)] u.2.2), P, E, N), sgX g ++ dy) t) A) = Q9
  have hx := C.1.1
  have hb := C.1.2.1
  have hts := C.1.2.2.2.2
  have hl : lv_has ls 6 [(0, .ref (g.2.2.1 12)), (1, .int a0), (2, .int a1), (3, .int a2)] := hl
  obtain ⟨H, hH⟩ : ∃ H : Heap, H = s.heap := ⟨_, rfl⟩
  obtain ⟨locs, hlocs⟩ : ∃ q : List Loc, q = [] := ⟨_, rfl⟩
  have hW : WB g A s.heap H locs (J, L, I, P, E, N) (sgX g ++ dy) := by rw [hH, hlocs]; exact hW
  refine start_ hH hlocs ?_
  refine lv_aload_n hx hb dX11_covers_0 rfl (lv_at hl 0 rfl) ?_
  refine rg_12_1 C hW (mx_ rfl) tw_365 dX11_covers_1 ?_
  refine lv_iload_n hx hb dX11_covers_4 rfl (lv_at hl 1 rfl) ?_
  refine cq_ C hW (runV (x := (g.2.2.1 3)) (As := [.int a0]) (rest := []) (T := ((J, L, I, P, E, N), sgX g ++ dy)) C hW (c_X2_spanOf_e l g J L I P E N dy H.size a0 hwf (show SPR I E P (J 27 2).toInt (J 3 1).toInt (J 116) (J 117) (J 118) (J 119) (J 120) from hspr)) mi_X2_spanOf tw_639 (recv_ (T := ((J, L, I, P, E, N), sgX g ++ dy)) C hW (mx_ rfl) rfl rfl) ⟨rfl, rfl, Nat.le_of_ble_eq_true rfl, Nat.le_of_ble_eq_true rfl⟩ rfl hl.1 rfl (Nat.le_of_ble_eq_true rfl) dX11_covers_5 ⟨Nat.le_of_ble_eq_true rfl, Nat.le_of_ble_eq_true rfl⟩) (fun q1 u1 H locs hp1 hW => ?_)
  have hq1 : ((q1 = none ∧ (¬ (0 ≤ a0.toInt ∧ a0.toInt < (J 3 1).toInt))) ∨ (∃ o9 : Nat, q1 = some o9 ∧ (9, o9) ∈ dy ∧ (0 ≤ a0.toInt ∧ a0.toInt < (J 3 1).toInt ∧ (I 9 0 o9).toInt ≤ a0.toInt ∧ a0.toInt ≤ (I 9 1 o9).toInt ∧ SPO I o9 (J 3 1).toInt (J 116) (J 117) (J 118) (J 119) (J 120)))) := hp1
  clear hp1
  have hW : WB g A s.heap H locs (J, L, I, P, E, N) (sgX g ++ dy) := hW
  rcases hq1 with ⟨ho1, hn1⟩ | ⟨o1, ho1, hm1, hs1⟩ <;> subst ho1
  · refine lv_asv (v' := .null) rfl ?_
    refine lv_astoreN (lv' := [(4, .null), (0, .ref (g.2.2.1 12)), (1, .int a0), (2, .int a1), (3, .int a2)]) hx hb dX11_covers_8 hl (by decide) rfl (fun ls hl => ?_)
    refine lv_aloadN hx hb dX11_covers_10 (lv_at hl 0 rfl) ?_
    refine lv_iload_n hx hb dX11_covers_12 rfl (lv_at hl 3 rfl) ?_
    refine lv_iload_n hx hb dX11_covers_13 rfl (lv_at hl 4 rfl) ?_
    refine ci_ C hW (runS (As := [.null, .int a1, .int a2]) (rest := []) (T := ((J, L, I, P, E, N), sgX g ++ dy)) C hW (c_X11_correctionRefusal_n_e l g J L I P E N dy H.size a1 a2 ) mi_X11_correctionRefusal tw_899 ⟨rfl, rfl, Nat.le_of_ble_eq_true rfl, Nat.le_of_ble_eq_true rfl⟩ rfl hl.1 rfl (Nat.le_of_ble_eq_true rfl) dX11_covers_14 ⟨Nat.le_of_ble_eq_true rfl, Nat.le_of_ble_eq_true rfl⟩) (fun r2 u2 H locs hp2 hW => ?_)
    have hc2 : ((r2.toInt = (-1))) := hp2
    clear hp2
    have hW : WB g A s.heap H locs (J, L, I, P, E, N) (sgX g ++ dy) := hW
    refine lv_istore (lv' := [(5, .int r2), (4, .null), (0, .ref (g.2.2.1 12)), (1, .int a0), (2, .int a1), (3, .int a2)]) hx hb dX11_covers_17 hl (by decide) rfl (fun ls hl => ?_)
    refine lv_iload hx hb dX11_covers_19 (lv_at hl 0 rfl) ?_
    refine lv_if_ne (tgt := 29) hx hb dX11_covers_21 (by decide) (fun c3 => ?_) (fun c3 => ?_)
    · have c3 : ¬ r2.toInt = 0 := tne rfl kp0 c3
      refine lv_aload_n hx hb dX11_covers_29 rfl (lv_at hl 2 rfl) ?_
      refine lv_iload hx hb dX11_covers_30 (lv_at hl 0 rfl) ?_
      refine ci_ C hW (runV (x := (g.2.2.1 12)) (As := [.int r2]) (rest := []) (T := ((J, L, I, P, E, N), sgX g ++ dy)) C hW (c_X11_refuse l g J L I P E N dy H.size r2 hwf) mi_X11_refuse tw_411 (recv_ (T := ((J, L, I, P, E, N), sgX g ++ dy)) C hW (mx_ rfl) rfl rfl) ⟨rfl, rfl, Nat.le_of_ble_eq_true rfl, Nat.le_of_ble_eq_true rfl⟩ rfl hl.1 rfl (Nat.le_of_ble_eq_true rfl) dX11_covers_32 ⟨Nat.le_of_ble_eq_true rfl, Nat.le_of_ble_eq_true rfl⟩) (fun r4 u4 H locs hp4 hW => ?_)
      have hc4 : ((r4 = r2)) := hp4
      clear hp4
      have hr4 : r4.toInt = (r2).toInt := by rw [hc4]
      have hW : WB g A s.heap H locs ((hv J [42] [] u4), L, I, P, E, N) (sgX g ++ dy) := hW
      have hWr : WB g A s.heap H locs ((hv J [42] [] (hv J [42] [] u4)), (hv L [47] [] L), (hv I [] [(6, 6), (6, 7)] I), P, E, N) (sgX g ++ dy) := by
        rw [← ag_hvE (J := J) (R := [42]) (F := []) (ag_hv rfl rfl ag_rf)]
        rw [← ag_hvE (J := L) (R := [47]) (F := []) ag_rf]
        rw [← ag_hvE (J := I) (R := []) (F := [(6, 6), (6, 7)]) ag_rf]
        exact hW
      subst hQ9
      exact end_i C hr hlocks ((hv J [42] [] u4), L, I) hWr (by first | exact Or.inl ⟨by omega, by omega⟩ | exact Or.inr (Or.inl ⟨by omega, by omega⟩) | exact Or.inr (Or.inr (Or.inl ⟨by omega, by omega⟩))) dX11_covers_35
    · have c3 : r2.toInt = 0 := teq rfl kp0 c3
      refine lv_aloadN hx hb dX11_covers_24 (lv_at hl 1 rfl) ?_
      refine lv_ifnonnullN hx hb dX11_covers_26 ?_
      refine lv_aload_n hx hb dX11_covers_29 rfl (lv_at hl 2 rfl) ?_
      refine lv_iload hx hb dX11_covers_30 (lv_at hl 0 rfl) ?_
      refine ci_ C hW (runV (x := (g.2.2.1 12)) (As := [.int r2]) (rest := []) (T := ((J, L, I, P, E, N), sgX g ++ dy)) C hW (c_X11_refuse l g J L I P E N dy H.size r2 hwf) mi_X11_refuse tw_411 (recv_ (T := ((J, L, I, P, E, N), sgX g ++ dy)) C hW (mx_ rfl) rfl rfl) ⟨rfl, rfl, Nat.le_of_ble_eq_true rfl, Nat.le_of_ble_eq_true rfl⟩ rfl hl.1 rfl (Nat.le_of_ble_eq_true rfl) dX11_covers_32 ⟨Nat.le_of_ble_eq_true rfl, Nat.le_of_ble_eq_true rfl⟩) (fun r5 u5 H locs hp5 hW => ?_)
      have hc5 : ((r5 = r2)) := hp5
      clear hp5
      have hr5 : r5.toInt = (r2).toInt := by rw [hc5]
      have hW : WB g A s.heap H locs ((hv J [42] [] u5), L, I, P, E, N) (sgX g ++ dy) := hW
      have hWr : WB g A s.heap H locs ((hv J [42] [] (hv J [42] [] u5)), (hv L [47] [] L), (hv I [] [(6, 6), (6, 7)] I), P, E, N) (sgX g ++ dy) := by
        rw [← ag_hvE (J := J) (R := [42]) (F := []) (ag_hv rfl rfl ag_rf)]
        rw [← ag_hvE (J := L) (R := [47]) (F := []) ag_rf]
        rw [← ag_hvE (J := I) (R := []) (F := [(6, 6), (6, 7)]) ag_rf]
        exact hW
      subst hQ9
      exact end_i C hr hlocks ((hv J [42] [] u5), L, I) hWr (by first | exact Or.inl ⟨by omega, by omega⟩ | exact Or.inr (Or.inl ⟨by omega, by omega⟩) | exact Or.inr (Or.inr (Or.inl ⟨by omega, by omega⟩))) dX11_covers_35
  · refine lv_asv (v' := .ref o1) rfl ?_
    obtain ⟨hsK1, hsR1, hsV1, hsO1, hsT1⟩ := spo_at hs1
    have hsk1 := congrArg Int32.toInt hsK1
    refine lv_astore (lv' := [(4, .ref o1), (0, .ref (g.2.2.1 12)), (1, .int a0), (2, .int a1), (3, .int a2)]) hx hb dX11_covers_8 hl (by decide) rfl (fun ls hl => ?_)
    refine lv_aload hx hb dX11_covers_10 (lv_at hl 0 rfl) ?_
    refine lv_iload_n hx hb dX11_covers_12 rfl (lv_at hl 3 rfl) ?_
    refine lv_iload_n hx hb dX11_covers_13 rfl (lv_at hl 4 rfl) ?_
    refine ci_ C hW (runS (As := [.ref o1, .int a1, .int a2]) (rest := []) (T := ((J, L, I, P, E, N), sgX g ++ dy)) C hW (c_X11_correctionRefusal_e l g J L I P E N dy H.size o1 hm1 a1 a2 ) mi_X11_correctionRefusal tw_899 ⟨rfl, rfl, Nat.le_of_ble_eq_true rfl, Nat.le_of_ble_eq_true rfl⟩ rfl hl.1 rfl (Nat.le_of_ble_eq_true rfl) dX11_covers_14 ⟨Nat.le_of_ble_eq_true rfl, Nat.le_of_ble_eq_true rfl⟩) (fun r6 u6 H locs hp6 hW => ?_)
    have hc6 : ((r6.toInt = (-4) ∧ (a1.toInt < 0 ∨ a2.toInt < 1)) ∨ (r6.toInt = (-6) ∧ (0 ≤ a1.toInt ∧ 1 ≤ a2.toInt ∧ (16777215 < a1.toInt ∨ 999 < a2.toInt))) ∨ (r6.toInt = 0 ∧ (0 ≤ a1.toInt ∧ a1.toInt ≤ 16777215 ∧ 1 ≤ a2.toInt ∧ a2.toInt ≤ 999))) := hp6
    clear hp6
    have hW : WB g A s.heap H locs (J, L, I, P, E, N) (sgX g ++ dy) := hW
    refine lv_istore (lv' := [(5, .int r6), (4, .ref o1), (0, .ref (g.2.2.1 12)), (1, .int a0), (2, .int a1), (3, .int a2)]) hx hb dX11_covers_17 hl (by decide) rfl (fun ls hl => ?_)
    refine lv_iload hx hb dX11_covers_19 (lv_at hl 0 rfl) ?_
    refine lv_if_ne (tgt := 29) hx hb dX11_covers_21 (by decide) (fun c7 => ?_) (fun c7 => ?_)
    · have c7 : ¬ r6.toInt = 0 := tne rfl kp0 c7
      refine lv_aload_n hx hb dX11_covers_29 rfl (lv_at hl 2 rfl) ?_
      refine lv_iload hx hb dX11_covers_30 (lv_at hl 0 rfl) ?_
      refine ci_ C hW (runV (x := (g.2.2.1 12)) (As := [.int r6]) (rest := []) (T := ((J, L, I, P, E, N), sgX g ++ dy)) C hW (c_X11_refuse l g J L I P E N dy H.size r6 hwf) mi_X11_refuse tw_411 (recv_ (T := ((J, L, I, P, E, N), sgX g ++ dy)) C hW (mx_ rfl) rfl rfl) ⟨rfl, rfl, Nat.le_of_ble_eq_true rfl, Nat.le_of_ble_eq_true rfl⟩ rfl hl.1 rfl (Nat.le_of_ble_eq_true rfl) dX11_covers_32 ⟨Nat.le_of_ble_eq_true rfl, Nat.le_of_ble_eq_true rfl⟩) (fun r8 u8 H locs hp8 hW => ?_)
      have hc8 : ((r8 = r6)) := hp8
      clear hp8
      have hr8 : r8.toInt = (r6).toInt := by rw [hc8]
      have hW : WB g A s.heap H locs ((hv J [42] [] u8), L, I, P, E, N) (sgX g ++ dy) := hW
      have hWr : WB g A s.heap H locs ((hv J [42] [] (hv J [42] [] u8)), (hv L [47] [] L), (hv I [] [(6, 6), (6, 7)] I), P, E, N) (sgX g ++ dy) := by
        rw [← ag_hvE (J := J) (R := [42]) (F := []) (ag_hv rfl rfl ag_rf)]
        rw [← ag_hvE (J := L) (R := [47]) (F := []) ag_rf]
        rw [← ag_hvE (J := I) (R := []) (F := [(6, 6), (6, 7)]) ag_rf]
        exact hW
      subst hQ9
      exact end_i C hr hlocks ((hv J [42] [] u8), L, I) hWr (by first | exact Or.inl ⟨by omega, by omega⟩ | exact Or.inr (Or.inl ⟨by omega, by omega⟩) | exact Or.inr (Or.inr (Or.inl ⟨by omega, by omega⟩)) | (rcases hc6 with qhc6 | qhc6 | qhc6 <;> first | exact Or.inl ⟨by omega, by omega⟩ | exact Or.inr (Or.inl ⟨by omega, by omega⟩) | exact Or.inr (Or.inr (Or.inl ⟨by omega, by omega⟩)) | (exfalso; omega))) dX11_covers_35
    · have c7 : r6.toInt = 0 := teq rfl kp0 c7
      refine lv_aload hx hb dX11_covers_24 (lv_at hl 1 rfl) ?_
      refine lv_ifnonnull (tgt := 36) hx hb dX11_covers_26 (by decide) ?_
      refine lv_aload_n hx hb dX11_covers_36 rfl (lv_at hl 2 rfl) ?_
      refine rg_12_0 C hW (mx_ rfl) tw_364 dX11_covers_37 ?_
      refine lv_aload hx hb dX11_covers_40 (lv_at hl 1 rfl) ?_
      refine lv_iload_n hx hb dX11_covers_42 rfl (lv_at hl 3 rfl) ?_
      refine lv_iload_n hx hb dX11_covers_43 rfl (lv_at hl 5 rfl) ?_
      refine cv_ C hW (runV (x := (g.2.2.1 4)) (As := [.ref o1, .int a0, .int a2]) (rest := []) (T := ((J, L, I, P, E, N), sgX g ++ dy)) C hW (c_X3_findListeners_e l g J L I P E N dy H.size o1 hm1 a0 a2 hwf (show NTR (P 6 0) (elt E P 20) (J 101) (J 20 2).toInt from by omega) (show INJ E P 20 (J 20 2).toInt from by omega) (show CUR (P 1 0) (I 1 1) (I 1 2) (elt E P 21) (elt E P 20) (J 105) (J 106) (J 107) (J 21 2).toInt (J 20 2).toInt from by omega) (show HMR (P 2 0) (I 2 1) (I 2 2) (I 2 3) (elt E P 22) (elt E P 20) (J 108) (J 109) (J 110) (J 111) (J 22 2).toInt (J 20 2).toInt from by omega) (show 0 ≤ a0.toInt ∧ a0.toInt ≤ 9999 from by omega) (show (J 22 2).toInt ≤ 40 from by omega)) mi_X3_findListeners tw_902 (recv_ (T := ((J, L, I, P, E, N), sgX g ++ dy)) C hW (mx_ rfl) rfl rfl) ⟨rfl, rfl, Nat.le_of_ble_eq_true rfl, Nat.le_of_ble_eq_true rfl⟩ rfl hl.1 rfl (Nat.le_of_ble_eq_true rfl) dX11_covers_44 ⟨Nat.le_of_ble_eq_true rfl, Nat.le_of_ble_eq_true rfl⟩) (fun u9 H locs hp9 hW => ?_)
      have hf9_0 : (∃ x x2 : Nat → Int32, SND x (J 101) (fun k => I 6 1 (elt E P 20 k)) (fun k => I 6 3 (elt E P 20 k)) (fun k => I 6 5 (elt E P 20 k)) (CUTP (J 105) (J 106) (J 107) (J 21 2).toInt a0.toInt) (I 9 5 o1) (I 9 3 o1) (J 20 2).toInt ∧ SND x2 (J 101) (fun k => I 6 1 (elt E P 20 k)) (fun k => I 6 3 (elt E P 20 k)) (fun k => I 6 5 (elt E P 20 k)) (CUTP (J 105) (J 106) (J 107) (J 21 2).toInt (-1 : Int32).toInt) a2 (J 4 4) (J 20 2).toInt ∧ LSTN (u9.1 47) (J 110) (LSP (I 9 2 o1) (J 110) (J 111) a0.toInt (J 4 5) (J 109) (J 108) x x2) (J 22 2).toInt) := hp9
      clear hp9
      have hW : WB g A s.heap H locs (J, (hv L [47] [] u9.1), (hv I [] [(6, 6), (6, 7)] u9.2), P, E, N) (sgX g ++ dy) := hW
      have hFL := hf9_0
      refine lv_aload_n hx hb dX11_covers_47 rfl (lv_at hl 2 rfl) ?_
      refine rg_12_0 C hW (mx_ rfl) tw_364 dX11_covers_48 ?_
      refine lv_iload_n hx hb dX11_covers_51 rfl (lv_at hl 4 rfl) ?_
      refine ci_ C hW (runV (x := (g.2.2.1 4)) (As := [.int a1]) (rest := []) (T := ((J, (hv L [47] [] u9.1), (hv I [] [(6, 6), (6, 7)] u9.2), P, E, N), sgX g ++ dy)) C hW (c_X3_covered_e l g J (hv L [47] [] u9.1) (hv I [] [(6, 6), (6, 7)] u9.2) P E N dy H.size a1 hwf (show 0 ≤ a1.toInt ∧ a1.toInt ≤ 16777215 from by omega)) mi_X3_covered tw_913 (recv_ (T := ((J, (hv L [47] [] u9.1), (hv I [] [(6, 6), (6, 7)] u9.2), P, E, N), sgX g ++ dy)) C hW (mx_ rfl) rfl rfl) ⟨rfl, rfl, Nat.le_of_ble_eq_true rfl, Nat.le_of_ble_eq_true rfl⟩ rfl hl.1 rfl (Nat.le_of_ble_eq_true rfl) dX11_covers_52 ⟨Nat.le_of_ble_eq_true rfl, Nat.le_of_ble_eq_true rfl⟩) (fun r10 u10 H locs hp10 hW => ?_)
      have hf10_0 : (r10.toInt = ((CNT (fun h => CVR ((hv L [47] [] u9.1) 47) a1 h) 64 : Nat) : Int)) := hp10
      clear hp10
      have hW : WB g A s.heap H locs (J, (hv L [47] [] u9.1), (hv I [] [(6, 6), (6, 7)] u9.2), P, E, N) (sgX g ++ dy) := hW
      have hCV := hf10_0
      have hWr : WB g A s.heap H locs ((hv J [42] [] J), (hv L [47] [] (hv L [47] [] u9.1)), (hv I [] [(6, 6), (6, 7)] (hv I [] [(6, 6), (6, 7)] u9.2)), P, E, N) (sgX g ++ dy) := by
        rw [← ag_hvE (J := J) (R := [42]) (F := []) ag_rf]
        rw [← ag_hvE (J := L) (R := [47]) (F := []) (ag_hv rfl rfl ag_rf)]
        rw [← ag_hvE (J := I) (R := []) (F := [(6, 6), (6, 7)]) (ag_hv rfl rfl ag_rf)]
        exact hW
      subst hQ9
      exact end_i C hr hlocks (J, (hv L [47] [] u9.1), (hv I [] [(6, 6), (6, 7)] u9.2)) hWr (by first | exact Or.inr (Or.inr (Or.inr (⟨by first | rfl | assumption, by omega, show (∃ x x2 : Nat → Int32, SND x (J 101) (fun k => I 6 1 (elt E P 20 k)) (fun k => I 6 3 (elt E P 20 k)) (fun k => I 6 5 (elt E P 20 k)) (CUTP (J 105) (J 106) (J 107) (J 21 2).toInt a0.toInt) (J 118 a0.toNatClampNeg) (J 120 a0.toNatClampNeg) (J 20 2).toInt ∧ SND x2 (J 101) (fun k => I 6 1 (elt E P 20 k)) (fun k => I 6 3 (elt E P 20 k)) (fun k => I 6 5 (elt E P 20 k)) (CUTP (J 105) (J 106) (J 107) (J 21 2).toInt (-1 : Int32).toInt) a2 (J 4 4) (J 20 2).toInt ∧ r10.toInt = ((CNT (fun h => LSP (J 116 a0.toNatClampNeg) (J 110) (J 111) a0.toInt (J 4 5) (J 109) (J 108) x x2 h ∧ HIT (J 110 h) a1) (J 22 2).toInt.toNat : Nat) : Int)) from (by obtain ⟨x9, x8, h1, h2, h3⟩ := hFL; rw [hsV1, hsT1] at h1; rw [hsK1] at h3; exact ⟨x9, x8, h1, h2, hCV.trans (congrArg (fun n : Nat => (n : Int)) (cv_cnt h3 (by omega) _))⟩)⟩)))) dX11_covers_55
