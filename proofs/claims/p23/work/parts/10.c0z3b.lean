set_option maxHeartbeats 4000000 in
set_option maxRecDepth 100000 in
theorem c_X3_breakable_q (l : Launch) (g : gG) (J : Nat → Nat → Int32) (L : Nat → Nat → Int64) (I : Nat → Nat → Nat → Int32) (P : Nat → Nat → Nat → Option Nat) (E : Nat → Option Nat) (N : Nat → Nat) (dy : List (Nat × Nat)) (sz : Nat)  (hwf : WXF g J P E N dy) (hhm : HMR (P 2 0) (I 2 1) (I 2 2) (I 2 3) (elt E P 22) (elt E P 20) (J 108) (J 109) (J 110) (J 111) (J 22 2).toInt (J 20 2).toInt) (hcm : FLD I E P (J 112) 22 2 4 (J 22 2).toInt) (hn1 : 1 ≤ (J 20 2).toInt) : Met l yX3_breakable (WS yX3_breakable cX3_breakable 4 (some .int)) (RM (4) 0 0) (PC g [.ref (g.2.2.1 4)] ((J, L, I, P, E, N), sgX g ++ dy) sz) (va_Qi (fun (r : Int32) (u : Unit) => (OPN r (J 112) (J 108) (fun k => I 6 2 (elt E P 20 k)) (J 22 2).toInt (J 20 2).toInt)) (fun u t => at_ g (FR g ((J, L, I, P, E, N), sgX g ++ dy) sz) ((J, L, I, P, E, N), sgX g ++ dy) t) (FR g ((J, L, I, P, E, N), sgX g ++ dy) sz)) 0 0 (FR g ((J, L, I, P, E, N), sgX g ++ dy) sz) := by
  refine ent (by decide +kernel) (Nat.le_of_ble_eq_true rfl) ?_
  intro p e s m below meth c ls hsz C hW hr hlocks hname hl
  generalize FR g ((J, L, I, P, E, N), sgX g ++ dy) sz = A at C hW ⊢
  generalize hQ9 : (va_Qi (fun (r : Int32) (u : Unit) => (OPN r (J 112) (J 108) (fun k => I 6 2 (elt E P 20 k)) (J 22 2).toInt (J 20 2).toInt)) (fun u t => at_ g A ((J, L, I, P, E, N), sgX g ++ dy) t) A) = Q9
  have hx := C.1.1
  have hb := C.1.2.1
  have hts := C.1.2.2.2.2
  have hl : lv_has ls 4 [(0, .ref (g.2.2.1 4))] := hl
  obtain ⟨H, hH⟩ : ∃ H : Heap, H = s.heap := ⟨_, rfl⟩
  obtain ⟨locs, hlocs⟩ : ∃ q : List Loc, q = [] := ⟨_, rfl⟩
  have hW : WB g A s.heap H locs (J, L, I, P, E, N) (sgX g ++ dy) := by rw [hH, hlocs]; exact hW
  obtain ⟨h20a, h20b, -⟩ := hwf.1.1
  obtain ⟨h22a, h22b, -⟩ := hwf.1.2.2.1
  refine start_ hH hlocs ?_
  refine lv_iconst (v := 0) hx hb dX3_breakable_0 (by decide) ?_
  refine lv_istore_n (lv' := [(1, .int 0), (0, .ref (g.2.2.1 4))]) hx hb dX3_breakable_1 rfl hl (by decide) rfl (fun ls hl => ?_)
  refine lv_iconst (v := 1) hx hb dX3_breakable_2 (by decide) ?_
  refine lv_istore_n (lv' := [(2, .int 1), (1, .int 0), (0, .ref (g.2.2.1 4))]) hx hb dX3_breakable_3 rfl hl (by decide) rfl (fun ls hl => ?_)
  have loop4 : ∀ (n : Nat) (m1 : Int32) (m2 : Int32) (H : Heap) (locs : List Loc) (ls : Array Slot), (12 - m2.toInt).toNat < n → 1 ≤ m2.toInt ∧ m2.toInt ≤ 12 ∧ m2.toInt ≤ (J 20 2).toInt → (∀ i : Nat, i < 32 → (IB m1 i = true ↔ 1 ≤ i ∧ (i : Int) < m2.toInt)) → WB g A s.heap H locs (J, L, I, P, E, N) (sgX g ++ dy) → lv_has ls 4 [(2, .int m2), (1, .int m1), (0, .ref (g.2.2.1 4))] → W p l e (RM (4) 0 0) s m ([.ref (g.2.2.1 4)] : List Value).toArray below meth c H locs 0 0 (MQ below Q9 ([.ref (g.2.2.1 4)] : List Value).toArray s 0 0 A) (F0 m 4 ls []) := by
    intro n
    induction n with
    | zero => intro m1 m2 H locs ls hmeas; exact absurd hmeas (Nat.not_lt_zero _)
    | succ n ih =>
      intro m1 m2 H locs ls hmeas hi hop hW hl
      refine lv_iload_n hx hb dX3_breakable_4 rfl (lv_at hl 0 rfl) ?_
      refine lv_aload_n hx hb dX3_breakable_5 rfl (lv_at hl 2 rfl) ?_
      refine rg_4_0 C hW (mx_ rfl) tw_232 dX3_breakable_6 ?_
      refine ci_ C hW (runV (x := (g.2.2.1 20)) (As := []) (rest := [.int m2]) (T := ((J, L, I, P, E, N), sgX g ++ dy)) C hW (c_Jx4a65c_size_8abf5 l g J L I P E N dy H.size 20 rfl ) mi_Jx4a65c_size_8abf5 tw_467 (recv_ (T := ((J, L, I, P, E, N), sgX g ++ dy)) C hW (mx_ rfl) (cel_list rfl) rfl) ⟨rfl, rfl, Nat.le_of_ble_eq_true rfl, Nat.le_of_ble_eq_true rfl⟩ rfl hl.1 rfl (Nat.le_of_ble_eq_true rfl) dX3_breakable_9 ⟨Nat.le_of_ble_eq_true rfl, Nat.le_of_ble_eq_true rfl⟩) (fun r1 u1 H locs hp1 hW => ?_)
      have hc1 : ((r1 = J 20 2)) := hp1
      clear hp1
      have hr1 : r1 = J 20 2 := hc1
      refine lv_as (J 20 2) hr1 ?_
      have hW : WB g A s.heap H locs (J, L, I, P, E, N) (sgX g ++ dy) := hW
      refine lv_icmp_ge (tgt := 33) hx hb dX3_breakable_12 (by decide) (fun c2 => ?_) (fun c2 => ?_)
      · have c2 : (J 20 2).toInt ≤ m2.toInt := tle rfl rfl c2
        refine lv_iconst (v := 0) hx hb dX3_breakable_33 (by decide) ?_
        refine lv_istore_n (lv' := [(2, .int 0), (1, .int m1), (0, .ref (g.2.2.1 4))]) hx hb dX3_breakable_34 rfl hl (by decide) rfl (fun ls hl => ?_)
        have loop35 : ∀ (n35 : Nat) (m1 : Int32) (m2 : Int32) (H : Heap) (locs : List Loc) (ls : Array Slot), ((J 22 2).toInt - m2.toInt).toNat < n35 → 0 ≤ m2.toInt ∧ m2.toInt ≤ (J 22 2).toInt → OPN m1 (J 112) (J 108) (fun k => I 6 2 (elt E P 20 k)) m2.toInt (J 20 2).toInt → WB g A s.heap H locs (J, L, I, P, E, N) (sgX g ++ dy) → lv_has ls 4 [(2, .int m2), (1, .int m1), (0, .ref (g.2.2.1 4))] → W p l e (RM (4) 0 0) s m ([.ref (g.2.2.1 4)] : List Value).toArray below meth c H locs 0 0 (MQ below Q9 ([.ref (g.2.2.1 4)] : List Value).toArray s 0 0 A) (F0 m 35 ls []) := by
          intro n35
          induction n35 with
          | zero => intro m1 m2 H locs ls hmeas; exact absurd hmeas (Nat.not_lt_zero _)
          | succ n35 ih35 =>
            intro m1 m2 H locs ls hmeas hi hop hW hl
            refine lv_iload_n hx hb dX3_breakable_35 rfl (lv_at hl 0 rfl) ?_
            refine lv_aload_n hx hb dX3_breakable_36 rfl (lv_at hl 2 rfl) ?_
            refine rg_4_2 C hW (mx_ rfl) tw_236 dX3_breakable_37 ?_
            refine ci_ C hW (runV (x := (g.2.2.1 22)) (As := []) (rest := [.int m2]) (T := ((J, L, I, P, E, N), sgX g ++ dy)) C hW (c_Jx4a65c_size_8abf5 l g J L I P E N dy H.size 22 rfl ) mi_Jx4a65c_size_8abf5 tw_467 (recv_ (T := ((J, L, I, P, E, N), sgX g ++ dy)) C hW (mx_ rfl) (cel_list rfl) rfl) ⟨rfl, rfl, Nat.le_of_ble_eq_true rfl, Nat.le_of_ble_eq_true rfl⟩ rfl hl.1 rfl (Nat.le_of_ble_eq_true rfl) dX3_breakable_40 ⟨Nat.le_of_ble_eq_true rfl, Nat.le_of_ble_eq_true rfl⟩) (fun r3 u3 H locs hp3 hW => ?_)
            have hc3 : ((r3 = J 22 2)) := hp3
            clear hp3
            have hr3 : r3 = J 22 2 := hc3
            refine lv_as (J 22 2) hr3 ?_
            have hW : WB g A s.heap H locs (J, L, I, P, E, N) (sgX g ++ dy) := hW
            refine lv_icmp_ge (tgt := 87) hx hb dX3_breakable_43 (by decide) (fun c4 => ?_) (fun c4 => ?_)
            · have c4 : (J 22 2).toInt ≤ m2.toInt := tle rfl rfl c4
              refine lv_iload_n hx hb dX3_breakable_87 rfl (lv_at hl 1 rfl) ?_
              subst hQ9
              exact end_i C hr hlocks () hW (show OPN m1 (J 112) (J 108) (fun k => I 6 2 (elt E P 20 k)) (J 22 2).toInt (J 20 2).toInt from by (have e9 : m2.toInt = (J 22 2).toInt := (by omega); rw [← e9]; exact hop)) dX3_breakable_88
            · have c4 : m2.toInt < (J 22 2).toInt := tnle rfl rfl c4
              refine lv_aload_n hx hb dX3_breakable_46 rfl (lv_at hl 2 rfl) ?_
              refine rg_4_2 C hW (mx_ rfl) tw_236 dX3_breakable_47 ?_
              refine lv_iload_n hx hb dX3_breakable_50 rfl (lv_at hl 0 rfl) ?_
              refine cq_ C hW (runV (x := (g.2.2.1 22)) (As := [.int m2]) (rest := []) (T := ((J, L, I, P, E, N), sgX g ++ dy)) C hW ((c_Jx4a65c_get_915e3 2) l g J L I P E N dy H.size 22 rfl m2 (show LWF g J P E N dy 22 2 from hwf.1.2.2.1) (show 0 ≤ m2.toInt ∧ m2.toInt < (J 22 2).toInt from by omega)) mi_Jx4a65c_get_915e3 tw_471 (recv_ (T := ((J, L, I, P, E, N), sgX g ++ dy)) C hW (mx_ rfl) (cel_list rfl) rfl) ⟨rfl, rfl, Nat.le_of_ble_eq_true rfl, Nat.le_of_ble_eq_true rfl⟩ rfl hl.1 rfl (Nat.le_of_ble_eq_true rfl) dX3_breakable_51 ⟨Nat.le_of_ble_eq_true rfl, Nat.le_of_ble_eq_true rfl⟩) (fun q5 u5 H locs hp5 hW => ?_)
              have hq5 : (q5 = some (elt E P 22 m2.toNatClampNeg)) := hp5
              clear hp5
              have hW : WB g A s.heap H locs (J, L, I, P, E, N) (sgX g ++ dy) := hW
              subst hq5
              obtain ⟨o5, ho5⟩ : ∃ z : Nat, z = elt E P 22 m2.toNatClampNeg := ⟨_, rfl⟩
              have hm5 : (2, o5) ∈ dy := by rw [ho5]; exact (lw_mem (er := 2) hwf.1.2.2.1 (show (m2.toNatClampNeg : Int) < (J 22 2).toInt from by have := tcl m2; omega))
              refine lv_asv (v' := .ref o5) (by rw [ho5]; rfl) ?_
              refine g_cast C hW (List.mem_append_right _ hm5) rfl rfl tw_580 dX3_breakable_54 ?_
              refine lv_astore_n (lv' := [(3, .ref o5), (2, .int m2), (1, .int m1), (0, .ref (g.2.2.1 4))]) hx hb dX3_breakable_57 rfl hl (by decide) rfl (fun ls hl => ?_)
              refine lv_iload_n hx hb dX3_breakable_58 rfl (lv_at hl 2 rfl) ?_
              refine lv_aload_n hx hb dX3_breakable_59 rfl (lv_at hl 0 rfl) ?_
              refine rg_2_4 C hW (List.mem_append_right _ hm5) tw_555 dX3_breakable_60 ?_
              refine lv_topi (fun x6 (e6 : x6 = I 2 4 o5) => ?_)
              have t6 : x6.toInt = (I 2 4 o5).toInt := by rw [e6]
              refine lv_if_eq (tgt := 70) hx hb dX3_breakable_63 (by decide) (fun c7 => ?_) (fun c7 => ?_)
              · have c7 : x6.toInt = 0 := teq rfl kp0 c7
                obtain ⟨h91, -⟩ := hhm m2.toNatClampNeg (by have h8 := tcl m2; omega)
                rw [← ho5] at h91
                have h92 := hcm m2.toNatClampNeg (by have h8 := tcl m2; omega)
                rw [← ho5] at h92
                have h93 := congrArg Int32.toInt h92
                refine lv_aload_n hx hb dX3_breakable_70 rfl (lv_at hl 0 rfl) ?_
                refine rg_2_0 C hW (List.mem_append_right _ hm5) tw_549 dX3_breakable_71 ?_
                obtain ⟨b8, hb8, hbm8⟩ := hwf.2.2.2.2.1 o5 hm5
                refine lv_asv (v' := .ref b8) (by show va_rf (P 2 0 o5) = _; rw [hb8]; rfl) ?_
                refine rg_6_2 C hW (List.mem_append_right _ hbm8) tw_141 dX3_breakable_74 ?_
                refine lv_topi (fun x9 (e9 : x9 = I 6 2 b8) => ?_)
                have t9 : x9.toInt = (I 6 2 b8).toInt := by rw [e9]
                refine lv_iconst (v := (-1)) hx hb dX3_breakable_77 (by decide) ?_
                refine lv_ixor hx hb dX3_breakable_78 ?_
                refine lv_topi (fun x10 (e10 : x10 = x9 ^^^ (-1)) => ?_)
                refine lv_iand hx hb dX3_breakable_79 ?_
                refine lv_topi (fun x11 (e11 : x11 = m1 &&& x10) => ?_)
                refine lv_istore_n (lv' := [(1, .int x11), (3, .ref o5), (2, .int m2), (0, .ref (g.2.2.1 4))]) hx hb dX3_breakable_80 rfl hl (by decide) rfl (fun ls hl => ?_)
                obtain ⟨x12, e12⟩ : ∃ y : Int32, y = m2 + 1 := ⟨_, rfl⟩
                refine lv_iinc (v := x12) (lv' := [(2, .int x12), (1, .int x11), (3, .ref o5), (0, .ref (g.2.2.1 4))]) hx hb dX3_breakable_81 hl (k := 2) rfl (by rw [e12]; rfl) (by decide) rfl (fun ls hl => ?_)
                try have t12 : x12.toInt = m2.toInt + 1 := tadd e12 rfl kp1 (by omega)
                refine lv_goto (tgt := 35) hx hb dX3_breakable_84 (by decide) ?_
                refine ih35 x11 x12 H locs ls ?_ ?_ ?_ hW (lv_sub hl [0, 1, 3] rfl)
                · show ((J 22 2).toInt - x12.toInt).toNat < n35
                  omega
                · show 0 ≤ x12.toInt ∧ x12.toInt ≤ (J 22 2).toInt
                  first | omega | exact hi | assumption
                · show OPN x11 (J 112) (J 108) (fun k => I 6 2 (elt E P 20 k)) x12.toInt (J 20 2).toInt
                  exact opn_n hop (by omega) (by omega) (by show (J 112 m2.toNatClampNeg).toInt = 0; omega) (e9.trans (congrArg (I 6 2) (Option.some.inj (hb8.symm.trans h91)))) e10 e11
              · have c7 : ¬ x6.toInt = 0 := tne rfl kp0 c7
                obtain ⟨h91, -⟩ := hhm m2.toNatClampNeg (by have h8 := tcl m2; omega)
                rw [← ho5] at h91
                have h92 := hcm m2.toNatClampNeg (by have h8 := tcl m2; omega)
                rw [← ho5] at h92
                have h93 := congrArg Int32.toInt h92
                refine lv_iload_n hx hb dX3_breakable_66 rfl (lv_at hl 2 rfl) ?_
                refine lv_goto (tgt := 79) hx hb dX3_breakable_67 (by decide) ?_
                refine lv_iand hx hb dX3_breakable_79 ?_
                refine lv_topi (fun x13 (e13 : x13 = m1 &&& m1) => ?_)
                refine lv_istore_n (lv' := [(1, .int x13), (3, .ref o5), (2, .int m2), (0, .ref (g.2.2.1 4))]) hx hb dX3_breakable_80 rfl hl (by decide) rfl (fun ls hl => ?_)
                obtain ⟨x14, e14⟩ : ∃ y : Int32, y = m2 + 1 := ⟨_, rfl⟩
                refine lv_iinc (v := x14) (lv' := [(2, .int x14), (1, .int x13), (3, .ref o5), (0, .ref (g.2.2.1 4))]) hx hb dX3_breakable_81 hl (k := 2) rfl (by rw [e14]; rfl) (by decide) rfl (fun ls hl => ?_)
                try have t14 : x14.toInt = m2.toInt + 1 := tadd e14 rfl kp1 (by omega)
                refine lv_goto (tgt := 35) hx hb dX3_breakable_84 (by decide) ?_
                refine ih35 x13 x14 H locs ls ?_ ?_ ?_ hW (lv_sub hl [0, 1, 3] rfl)
                · show ((J 22 2).toInt - x14.toInt).toNat < n35
                  omega
                · show 0 ≤ x14.toInt ∧ x14.toInt ≤ (J 22 2).toInt
                  first | omega | exact hi | assumption
                · show OPN x13 (J 112) (J 108) (fun k => I 6 2 (elt E P 20 k)) x14.toInt (J 20 2).toInt
                  exact opn_y hop (by omega) (by omega) (by show ¬ (J 112 m2.toNatClampNeg).toInt = 0; omega) e13
        -- into the loop
        refine loop35 (((J 22 2).toInt - (0 : Int32).toInt).toNat + 1) m1 0 H locs ls ?_ ?_ ?_ hW (lv_sub hl [0, 1, 2] rfl)
        · exact Nat.lt_succ_self _
        · show 0 ≤ (0 : Int32).toInt ∧ (0 : Int32).toInt ≤ (J 22 2).toInt
          try rw [kp0]
          first | omega | exact hi | assumption
        · show OPN m1 (J 112) (J 108) (fun k => I 6 2 (elt E P 20 k)) (0 : Int32).toInt (J 20 2).toInt
          try rw [kp0]
          exact opn_a hop (by omega) (by omega) (by omega) (by first | rfl | exact kp0)
      · have c2 : m2.toInt < (J 20 2).toInt := tnle rfl rfl c2
        refine lv_iload_n hx hb dX3_breakable_15 rfl (lv_at hl 0 rfl) ?_
        refine lv_bipush (v := 11) hx hb dX3_breakable_16 (by decide) ?_
        refine lv_icmp_gt (tgt := 33) hx hb dX3_breakable_18 (by decide) (fun c15 => ?_) (fun c15 => ?_)
        · have c15 : 11 < m2.toInt := tlt kp11 rfl c15
          refine lv_iconst (v := 0) hx hb dX3_breakable_33 (by decide) ?_
          refine lv_istore_n (lv' := [(2, .int 0), (1, .int m1), (0, .ref (g.2.2.1 4))]) hx hb dX3_breakable_34 rfl hl (by decide) rfl (fun ls hl => ?_)
          have loop35 : ∀ (n35 : Nat) (m1 : Int32) (m2 : Int32) (H : Heap) (locs : List Loc) (ls : Array Slot), ((J 22 2).toInt - m2.toInt).toNat < n35 → 0 ≤ m2.toInt ∧ m2.toInt ≤ (J 22 2).toInt → OPN m1 (J 112) (J 108) (fun k => I 6 2 (elt E P 20 k)) m2.toInt (J 20 2).toInt → WB g A s.heap H locs (J, L, I, P, E, N) (sgX g ++ dy) → lv_has ls 4 [(2, .int m2), (1, .int m1), (0, .ref (g.2.2.1 4))] → W p l e (RM (4) 0 0) s m ([.ref (g.2.2.1 4)] : List Value).toArray below meth c H locs 0 0 (MQ below Q9 ([.ref (g.2.2.1 4)] : List Value).toArray s 0 0 A) (F0 m 35 ls []) := by
            intro n35
            induction n35 with
            | zero => intro m1 m2 H locs ls hmeas; exact absurd hmeas (Nat.not_lt_zero _)
            | succ n35 ih35 =>
              intro m1 m2 H locs ls hmeas hi hop hW hl
              refine lv_iload_n hx hb dX3_breakable_35 rfl (lv_at hl 0 rfl) ?_
              refine lv_aload_n hx hb dX3_breakable_36 rfl (lv_at hl 2 rfl) ?_
              refine rg_4_2 C hW (mx_ rfl) tw_236 dX3_breakable_37 ?_
              refine ci_ C hW (runV (x := (g.2.2.1 22)) (As := []) (rest := [.int m2]) (T := ((J, L, I, P, E, N), sgX g ++ dy)) C hW (c_Jx4a65c_size_8abf5 l g J L I P E N dy H.size 22 rfl ) mi_Jx4a65c_size_8abf5 tw_467 (recv_ (T := ((J, L, I, P, E, N), sgX g ++ dy)) C hW (mx_ rfl) (cel_list rfl) rfl) ⟨rfl, rfl, Nat.le_of_ble_eq_true rfl, Nat.le_of_ble_eq_true rfl⟩ rfl hl.1 rfl (Nat.le_of_ble_eq_true rfl) dX3_breakable_40 ⟨Nat.le_of_ble_eq_true rfl, Nat.le_of_ble_eq_true rfl⟩) (fun r16 u16 H locs hp16 hW => ?_)
              have hc16 : ((r16 = J 22 2)) := hp16
              clear hp16
              have hr16 : r16 = J 22 2 := hc16
              refine lv_as (J 22 2) hr16 ?_
              have hW : WB g A s.heap H locs (J, L, I, P, E, N) (sgX g ++ dy) := hW
              refine lv_icmp_ge (tgt := 87) hx hb dX3_breakable_43 (by decide) (fun c17 => ?_) (fun c17 => ?_)
              · have c17 : (J 22 2).toInt ≤ m2.toInt := tle rfl rfl c17
                refine lv_iload_n hx hb dX3_breakable_87 rfl (lv_at hl 1 rfl) ?_
                subst hQ9
                exact end_i C hr hlocks () hW (show OPN m1 (J 112) (J 108) (fun k => I 6 2 (elt E P 20 k)) (J 22 2).toInt (J 20 2).toInt from by (have e9 : m2.toInt = (J 22 2).toInt := (by omega); rw [← e9]; exact hop)) dX3_breakable_88
              · have c17 : m2.toInt < (J 22 2).toInt := tnle rfl rfl c17
                refine lv_aload_n hx hb dX3_breakable_46 rfl (lv_at hl 2 rfl) ?_
                refine rg_4_2 C hW (mx_ rfl) tw_236 dX3_breakable_47 ?_
                refine lv_iload_n hx hb dX3_breakable_50 rfl (lv_at hl 0 rfl) ?_
                refine cq_ C hW (runV (x := (g.2.2.1 22)) (As := [.int m2]) (rest := []) (T := ((J, L, I, P, E, N), sgX g ++ dy)) C hW ((c_Jx4a65c_get_915e3 2) l g J L I P E N dy H.size 22 rfl m2 (show LWF g J P E N dy 22 2 from hwf.1.2.2.1) (show 0 ≤ m2.toInt ∧ m2.toInt < (J 22 2).toInt from by omega)) mi_Jx4a65c_get_915e3 tw_471 (recv_ (T := ((J, L, I, P, E, N), sgX g ++ dy)) C hW (mx_ rfl) (cel_list rfl) rfl) ⟨rfl, rfl, Nat.le_of_ble_eq_true rfl, Nat.le_of_ble_eq_true rfl⟩ rfl hl.1 rfl (Nat.le_of_ble_eq_true rfl) dX3_breakable_51 ⟨Nat.le_of_ble_eq_true rfl, Nat.le_of_ble_eq_true rfl⟩) (fun q18 u18 H locs hp18 hW => ?_)
                have hq18 : (q18 = some (elt E P 22 m2.toNatClampNeg)) := hp18
                clear hp18
                have hW : WB g A s.heap H locs (J, L, I, P, E, N) (sgX g ++ dy) := hW
                subst hq18
                obtain ⟨o18, ho18⟩ : ∃ z : Nat, z = elt E P 22 m2.toNatClampNeg := ⟨_, rfl⟩
                have hm18 : (2, o18) ∈ dy := by rw [ho18]; exact (lw_mem (er := 2) hwf.1.2.2.1 (show (m2.toNatClampNeg : Int) < (J 22 2).toInt from by have := tcl m2; omega))
                refine lv_asv (v' := .ref o18) (by rw [ho18]; rfl) ?_
                refine g_cast C hW (List.mem_append_right _ hm18) rfl rfl tw_580 dX3_breakable_54 ?_
                refine lv_astore_n (lv' := [(3, .ref o18), (2, .int m2), (1, .int m1), (0, .ref (g.2.2.1 4))]) hx hb dX3_breakable_57 rfl hl (by decide) rfl (fun ls hl => ?_)
                refine lv_iload_n hx hb dX3_breakable_58 rfl (lv_at hl 2 rfl) ?_
                refine lv_aload_n hx hb dX3_breakable_59 rfl (lv_at hl 0 rfl) ?_
                refine rg_2_4 C hW (List.mem_append_right _ hm18) tw_555 dX3_breakable_60 ?_
                refine lv_topi (fun x19 (e19 : x19 = I 2 4 o18) => ?_)
                have t19 : x19.toInt = (I 2 4 o18).toInt := by rw [e19]
                refine lv_if_eq (tgt := 70) hx hb dX3_breakable_63 (by decide) (fun c20 => ?_) (fun c20 => ?_)
                · have c20 : x19.toInt = 0 := teq rfl kp0 c20
                  obtain ⟨h91, -⟩ := hhm m2.toNatClampNeg (by have h8 := tcl m2; omega)
                  rw [← ho18] at h91
                  have h92 := hcm m2.toNatClampNeg (by have h8 := tcl m2; omega)
                  rw [← ho18] at h92
                  have h93 := congrArg Int32.toInt h92
                  refine lv_aload_n hx hb dX3_breakable_70 rfl (lv_at hl 0 rfl) ?_
                  refine rg_2_0 C hW (List.mem_append_right _ hm18) tw_549 dX3_breakable_71 ?_
                  obtain ⟨b21, hb21, hbm21⟩ := hwf.2.2.2.2.1 o18 hm18
                  refine lv_asv (v' := .ref b21) (by show va_rf (P 2 0 o18) = _; rw [hb21]; rfl) ?_
                  refine rg_6_2 C hW (List.mem_append_right _ hbm21) tw_141 dX3_breakable_74 ?_
                  refine lv_topi (fun x22 (e22 : x22 = I 6 2 b21) => ?_)
                  have t22 : x22.toInt = (I 6 2 b21).toInt := by rw [e22]
                  refine lv_iconst (v := (-1)) hx hb dX3_breakable_77 (by decide) ?_
                  refine lv_ixor hx hb dX3_breakable_78 ?_
                  refine lv_topi (fun x23 (e23 : x23 = x22 ^^^ (-1)) => ?_)
                  refine lv_iand hx hb dX3_breakable_79 ?_
                  refine lv_topi (fun x24 (e24 : x24 = m1 &&& x23) => ?_)
                  refine lv_istore_n (lv' := [(1, .int x24), (3, .ref o18), (2, .int m2), (0, .ref (g.2.2.1 4))]) hx hb dX3_breakable_80 rfl hl (by decide) rfl (fun ls hl => ?_)
                  obtain ⟨x25, e25⟩ : ∃ y : Int32, y = m2 + 1 := ⟨_, rfl⟩
                  refine lv_iinc (v := x25) (lv' := [(2, .int x25), (1, .int x24), (3, .ref o18), (0, .ref (g.2.2.1 4))]) hx hb dX3_breakable_81 hl (k := 2) rfl (by rw [e25]; rfl) (by decide) rfl (fun ls hl => ?_)
                  try have t25 : x25.toInt = m2.toInt + 1 := tadd e25 rfl kp1 (by omega)
                  refine lv_goto (tgt := 35) hx hb dX3_breakable_84 (by decide) ?_
                  refine ih35 x24 x25 H locs ls ?_ ?_ ?_ hW (lv_sub hl [0, 1, 3] rfl)
                  · show ((J 22 2).toInt - x25.toInt).toNat < n35
                    omega
                  · show 0 ≤ x25.toInt ∧ x25.toInt ≤ (J 22 2).toInt
                    first | omega | exact hi | assumption
                  · show OPN x24 (J 112) (J 108) (fun k => I 6 2 (elt E P 20 k)) x25.toInt (J 20 2).toInt
                    exact opn_n hop (by omega) (by omega) (by show (J 112 m2.toNatClampNeg).toInt = 0; omega) (e22.trans (congrArg (I 6 2) (Option.some.inj (hb21.symm.trans h91)))) e23 e24
                · have c20 : ¬ x19.toInt = 0 := tne rfl kp0 c20
                  obtain ⟨h91, -⟩ := hhm m2.toNatClampNeg (by have h8 := tcl m2; omega)
                  rw [← ho18] at h91
                  have h92 := hcm m2.toNatClampNeg (by have h8 := tcl m2; omega)
                  rw [← ho18] at h92
                  have h93 := congrArg Int32.toInt h92
                  refine lv_iload_n hx hb dX3_breakable_66 rfl (lv_at hl 2 rfl) ?_
                  refine lv_goto (tgt := 79) hx hb dX3_breakable_67 (by decide) ?_
                  refine lv_iand hx hb dX3_breakable_79 ?_
                  refine lv_topi (fun x26 (e26 : x26 = m1 &&& m1) => ?_)
                  refine lv_istore_n (lv' := [(1, .int x26), (3, .ref o18), (2, .int m2), (0, .ref (g.2.2.1 4))]) hx hb dX3_breakable_80 rfl hl (by decide) rfl (fun ls hl => ?_)
                  obtain ⟨x27, e27⟩ : ∃ y : Int32, y = m2 + 1 := ⟨_, rfl⟩
                  refine lv_iinc (v := x27) (lv' := [(2, .int x27), (1, .int x26), (3, .ref o18), (0, .ref (g.2.2.1 4))]) hx hb dX3_breakable_81 hl (k := 2) rfl (by rw [e27]; rfl) (by decide) rfl (fun ls hl => ?_)
                  try have t27 : x27.toInt = m2.toInt + 1 := tadd e27 rfl kp1 (by omega)
                  refine lv_goto (tgt := 35) hx hb dX3_breakable_84 (by decide) ?_
                  refine ih35 x26 x27 H locs ls ?_ ?_ ?_ hW (lv_sub hl [0, 1, 3] rfl)
                  · show ((J 22 2).toInt - x27.toInt).toNat < n35
                    omega
                  · show 0 ≤ x27.toInt ∧ x27.toInt ≤ (J 22 2).toInt
                    first | omega | exact hi | assumption
                  · show OPN x26 (J 112) (J 108) (fun k => I 6 2 (elt E P 20 k)) x27.toInt (J 20 2).toInt
                    exact opn_y hop (by omega) (by omega) (by show ¬ (J 112 m2.toNatClampNeg).toInt = 0; omega) e26
          -- into the loop
          refine loop35 (((J 22 2).toInt - (0 : Int32).toInt).toNat + 1) m1 0 H locs ls ?_ ?_ ?_ hW (lv_sub hl [0, 1, 2] rfl)
          · exact Nat.lt_succ_self _
          · show 0 ≤ (0 : Int32).toInt ∧ (0 : Int32).toInt ≤ (J 22 2).toInt
            try rw [kp0]
            first | omega | exact hi | assumption
          · show OPN m1 (J 112) (J 108) (fun k => I 6 2 (elt E P 20 k)) (0 : Int32).toInt (J 20 2).toInt
            try rw [kp0]
            exact opn_a hop (by omega) (by omega) (by omega) (by first | rfl | exact kp0)
        · have c15 : m2.toInt ≤ 11 := tnlt kp11 rfl c15
          refine lv_iload_n hx hb dX3_breakable_21 rfl (lv_at hl 1 rfl) ?_
          refine lv_iconst (v := 1) hx hb dX3_breakable_22 (by decide) ?_
          refine lv_iload_n hx hb dX3_breakable_23 rfl (lv_at hl 0 rfl) ?_
          refine lv_ishl hx hb dX3_breakable_24 ?_
          refine lv_topi (fun x28 (e28 : x28 = 1 <<< (m2 &&& 31)) => ?_)
          refine lv_ior hx hb dX3_breakable_25 ?_
          refine lv_topi (fun x29 (e29 : x29 = m1 ||| x28) => ?_)
          refine lv_istore_n (lv' := [(1, .int x29), (2, .int m2), (0, .ref (g.2.2.1 4))]) hx hb dX3_breakable_26 rfl hl (by decide) rfl (fun ls hl => ?_)
          obtain ⟨x30, e30⟩ : ∃ y : Int32, y = m2 + 1 := ⟨_, rfl⟩
          refine lv_iinc (v := x30) (lv' := [(2, .int x30), (1, .int x29), (0, .ref (g.2.2.1 4))]) hx hb dX3_breakable_27 hl (k := 1) rfl (by rw [e30]; rfl) (by decide) rfl (fun ls hl => ?_)
          try have t30 : x30.toInt = m2.toInt + 1 := tadd e30 rfl kp1 (by omega)
          refine lv_goto (tgt := 4) hx hb dX3_breakable_30 (by decide) ?_
          refine ih x29 x30 H locs ls ?_ ?_ ?_ hW (lv_sub hl [0, 1, 2] rfl)
          · show (12 - x30.toInt).toNat < n
            omega
          · show 1 ≤ x30.toInt ∧ x30.toInt ≤ 12 ∧ x30.toInt ≤ (J 20 2).toInt
            first | omega | exact hi | assumption
          · show ∀ i : Nat, i < 32 → (IB x29 i = true ↔ 1 ≤ i ∧ (i : Int) < x30.toInt)
            exact opn_1 hop e28 e29 (by omega) (by omega) (by omega)
  -- into the loop
  refine loop4 ((12 - (1 : Int32).toInt).toNat + 1) 0 1 H locs ls ?_ ?_ ?_ hW (lv_sub hl [0, 1, 2] rfl)
  · exact Nat.lt_succ_self _
  · show 1 ≤ (1 : Int32).toInt ∧ (1 : Int32).toInt ≤ 12 ∧ (1 : Int32).toInt ≤ (J 20 2).toInt
    try rw [kp0]
    try rw [kp1]
    first | omega | exact ⟨by decide, by decide, by omega⟩
  · show ∀ i : Nat, i < 32 → (IB (0 : Int32) i = true ↔ 1 ≤ i ∧ (i : Int) < (1 : Int32).toInt)
    try rw [kp0]
    try rw [kp1]
    exact opn_0 (by first | rfl | exact kp0 | decide) (by first | rfl | exact kp1 | decide)

set_option maxHeartbeats 4000000 in
set_option maxRecDepth 100000 in
theorem c_X3_hitsAllComplaints_q (l : Launch) (g : gG) (J : Nat → Nat → Int32) (L : Nat → Nat → Int64) (I : Nat → Nat → Nat → Int32) (P : Nat → Nat → Nat → Option Nat) (E : Nat → Option Nat) (N : Nat → Nat) (dy : List (Nat × Nat)) (sz : Nat) (a0 : Int32) (hwf : WXF g J P E N dy) (hhm : HMR (P 2 0) (I 2 1) (I 2 2) (I 2 3) (elt E P 22) (elt E P 20) (J 108) (J 109) (J 110) (J 111) (J 22 2).toInt (J 20 2).toInt) (hcm : FLD I E P (J 112) 22 2 4 (J 22 2).toInt) : Met l yX3_hitsAllComplaints (WS yX3_hitsAllComplaints cX3_hitsAllComplaints 4 (some .boolean)) (RM (4) 0 0) (PC g [.ref (g.2.2.1 4), .int a0] ((J, L, I, P, E, N), sgX g ++ dy) sz) (va_Qi (fun (r : Int32) (u : Unit) => ((r.toInt = 1) ∨ (r.toInt = 0)) ∧ (((r.toInt : Int) = 1 ∧ HIT2 a0 (J 112) (J 108) (fun k => I 6 2 (elt E P 20 k)) (J 22 2).toInt) ∨ ((r.toInt : Int) = 0 ∧ ¬ HIT2 a0 (J 112) (J 108) (fun k => I 6 2 (elt E P 20 k)) (J 22 2).toInt))) (fun u t => at_ g (FR g ((J, L, I, P, E, N), sgX g ++ dy) sz) ((J, L, I, P, E, N), sgX g ++ dy) t) (FR g ((J, L, I, P, E, N), sgX g ++ dy) sz)) 0 0 (FR g ((J, L, I, P, E, N), sgX g ++ dy) sz) := by
  refine ent (by decide +kernel) (Nat.le_of_ble_eq_true rfl) ?_
  intro p e s m below meth c ls hsz C hW hr hlocks hname hl
  generalize FR g ((J, L, I, P, E, N), sgX g ++ dy) sz = A at C hW ⊢
  generalize hQ9 : (va_Qi (fun (r : Int32) (u : Unit) => ((r.toInt = 1) ∨ (r.toInt = 0)) ∧ (((r.toInt : Int) = 1 ∧ HIT2 a0 (J 112) (J 108) (fun k => I 6 2 (elt E P 20 k)) (J 22 2).toInt) ∨ ((r.toInt : Int) = 0 ∧ ¬ HIT2 a0 (J 112) (J 108) (fun k => I 6 2 (elt E P 20 k)) (J 22 2).toInt))) (fun u t => at_ g A ((J, L, I, P, E, N), sgX g ++ dy) t) A) = Q9
  have hx := C.1.1
  have hb := C.1.2.1
  have hts := C.1.2.2.2.2
  have hl : lv_has ls 4 [(0, .ref (g.2.2.1 4)), (1, .int a0)] := hl
  obtain ⟨H, hH⟩ : ∃ H : Heap, H = s.heap := ⟨_, rfl⟩
  obtain ⟨locs, hlocs⟩ : ∃ q : List Loc, q = [] := ⟨_, rfl⟩
  have hW : WB g A s.heap H locs (J, L, I, P, E, N) (sgX g ++ dy) := by rw [hH, hlocs]; exact hW
  obtain ⟨h20a, h20b, -⟩ := hwf.1.1
  obtain ⟨h22a, h22b, -⟩ := hwf.1.2.2.1
  refine start_ hH hlocs ?_
  refine lv_iconst (v := 0) hx hb dX3_hitsAllComplaints_0 (by decide) ?_
  refine lv_istore_n (lv' := [(2, .int 0), (0, .ref (g.2.2.1 4)), (1, .int a0)]) hx hb dX3_hitsAllComplaints_1 rfl hl (by decide) rfl (fun ls hl => ?_)
  have loop2 : ∀ (n : Nat) (m2 : Int32) (H : Heap) (locs : List Loc) (ls : Array Slot), ((J 22 2).toInt - m2.toInt).toNat < n → 0 ≤ m2.toInt ∧ m2.toInt ≤ (J 22 2).toInt → (∀ h : Nat, (h : Int) < m2.toInt → (¬ (J 112 h).toInt = 0 → ¬ (I 6 2 (elt E P 20 (J 108 h).toNatClampNeg) &&& a0).toInt = 0)) → WB g A s.heap H locs (J, L, I, P, E, N) (sgX g ++ dy) → lv_has ls 4 [(2, .int m2), (0, .ref (g.2.2.1 4)), (1, .int a0)] → W p l e (RM (4) 0 0) s m ([.ref (g.2.2.1 4), .int a0] : List Value).toArray below meth c H locs 0 0 (MQ below Q9 ([.ref (g.2.2.1 4), .int a0] : List Value).toArray s 0 0 A) (F0 m 2 ls []) := by
    intro n
    induction n with
    | zero => intro m2 H locs ls hmeas; exact absurd hmeas (Nat.not_lt_zero _)
    | succ n ih =>
      intro m2 H locs ls hmeas hi hal hW hl
      refine lv_iload_n hx hb dX3_hitsAllComplaints_2 rfl (lv_at hl 0 rfl) ?_
      refine lv_aload_n hx hb dX3_hitsAllComplaints_3 rfl (lv_at hl 1 rfl) ?_
      refine rg_4_2 C hW (mx_ rfl) tw_236 dX3_hitsAllComplaints_4 ?_
      refine ci_ C hW (runV (x := (g.2.2.1 22)) (As := []) (rest := [.int m2]) (T := ((J, L, I, P, E, N), sgX g ++ dy)) C hW (c_Jx4a65c_size_8abf5 l g J L I P E N dy H.size 22 rfl ) mi_Jx4a65c_size_8abf5 tw_467 (recv_ (T := ((J, L, I, P, E, N), sgX g ++ dy)) C hW (mx_ rfl) (cel_list rfl) rfl) ⟨rfl, rfl, Nat.le_of_ble_eq_true rfl, Nat.le_of_ble_eq_true rfl⟩ rfl hl.1 rfl (Nat.le_of_ble_eq_true rfl) dX3_hitsAllComplaints_7 ⟨Nat.le_of_ble_eq_true rfl, Nat.le_of_ble_eq_true rfl⟩) (fun r1 u1 H locs hp1 hW => ?_)
      have hc1 : ((r1 = J 22 2)) := hp1
      clear hp1
      have hr1 : r1 = J 22 2 := hc1
      refine lv_as (J 22 2) hr1 ?_
      have hW : WB g A s.heap H locs (J, L, I, P, E, N) (sgX g ++ dy) := hW
      refine lv_icmp_ge (tgt := 52) hx hb dX3_hitsAllComplaints_10 (by decide) (fun c2 => ?_) (fun c2 => ?_)
      · have c2 : (J 22 2).toInt ≤ m2.toInt := tle rfl rfl c2
        refine lv_iconst (v := 1) hx hb dX3_hitsAllComplaints_52 (by decide) ?_
        subst hQ9
        exact end_z C hr hlocks (by decide) () hW ⟨by first | exact Or.inl (by decide), show ((1 : Int) = 1 ∧ HIT2 a0 (J 112) (J 108) (fun k => I 6 2 (elt E P 20 k)) (J 22 2).toInt) ∨ ((1 : Int) = 0 ∧ ¬ HIT2 a0 (J 112) (J 108) (fun k => I 6 2 (elt E P 20 k)) (J 22 2).toInt) from by exact Or.inl ⟨rfl, fun h hh => hal h (by omega)⟩⟩ dX3_hitsAllComplaints_53
      · have c2 : m2.toInt < (J 22 2).toInt := tnle rfl rfl c2
        refine lv_aload_n hx hb dX3_hitsAllComplaints_13 rfl (lv_at hl 1 rfl) ?_
        refine rg_4_2 C hW (mx_ rfl) tw_236 dX3_hitsAllComplaints_14 ?_
        refine lv_iload_n hx hb dX3_hitsAllComplaints_17 rfl (lv_at hl 0 rfl) ?_
        refine cq_ C hW (runV (x := (g.2.2.1 22)) (As := [.int m2]) (rest := []) (T := ((J, L, I, P, E, N), sgX g ++ dy)) C hW ((c_Jx4a65c_get_915e3 2) l g J L I P E N dy H.size 22 rfl m2 (show LWF g J P E N dy 22 2 from hwf.1.2.2.1) (show 0 ≤ m2.toInt ∧ m2.toInt < (J 22 2).toInt from by omega)) mi_Jx4a65c_get_915e3 tw_471 (recv_ (T := ((J, L, I, P, E, N), sgX g ++ dy)) C hW (mx_ rfl) (cel_list rfl) rfl) ⟨rfl, rfl, Nat.le_of_ble_eq_true rfl, Nat.le_of_ble_eq_true rfl⟩ rfl hl.1 rfl (Nat.le_of_ble_eq_true rfl) dX3_hitsAllComplaints_18 ⟨Nat.le_of_ble_eq_true rfl, Nat.le_of_ble_eq_true rfl⟩) (fun q3 u3 H locs hp3 hW => ?_)
        have hq3 : (q3 = some (elt E P 22 m2.toNatClampNeg)) := hp3
        clear hp3
        have hW : WB g A s.heap H locs (J, L, I, P, E, N) (sgX g ++ dy) := hW
        subst hq3
        obtain ⟨o3, ho3⟩ : ∃ z : Nat, z = elt E P 22 m2.toNatClampNeg := ⟨_, rfl⟩
        have hm3 : (2, o3) ∈ dy := by rw [ho3]; exact (lw_mem (er := 2) hwf.1.2.2.1 (show (m2.toNatClampNeg : Int) < (J 22 2).toInt from by have := tcl m2; omega))
        refine lv_asv (v' := .ref o3) (by rw [ho3]; rfl) ?_
        refine g_cast C hW (List.mem_append_right _ hm3) rfl rfl tw_580 dX3_hitsAllComplaints_21 ?_
        refine lv_astore_n (lv' := [(3, .ref o3), (2, .int m2), (0, .ref (g.2.2.1 4)), (1, .int a0)]) hx hb dX3_hitsAllComplaints_24 rfl hl (by decide) rfl (fun ls hl => ?_)
        refine lv_aload_n hx hb dX3_hitsAllComplaints_25 rfl (lv_at hl 0 rfl) ?_
        refine rg_2_4 C hW (List.mem_append_right _ hm3) tw_555 dX3_hitsAllComplaints_26 ?_
        refine lv_topi (fun x4 (e4 : x4 = I 2 4 o3) => ?_)
        have t4 : x4.toInt = (I 2 4 o3).toInt := by rw [e4]
        obtain ⟨h91, -⟩ := hhm m2.toNatClampNeg (by have h8 := tcl m2; omega)
        rw [← ho3] at h91
        have h92 := hcm m2.toNatClampNeg (by have h8 := tcl m2; omega)
        rw [← ho3] at h92
        have h93 := congrArg Int32.toInt h92
        refine lv_if_eq (tgt := 46) hx hb dX3_hitsAllComplaints_29 (by decide) (fun c5 => ?_) (fun c5 => ?_)
        · have c5 : x4.toInt = 0 := teq rfl kp0 c5
          obtain ⟨x6, e6⟩ : ∃ y : Int32, y = m2 + 1 := ⟨_, rfl⟩
          refine lv_iinc (v := x6) (lv' := [(2, .int x6), (3, .ref o3), (0, .ref (g.2.2.1 4)), (1, .int a0)]) hx hb dX3_hitsAllComplaints_46 hl (k := 1) rfl (by rw [e6]; rfl) (by decide) rfl (fun ls hl => ?_)
          try have t6 : x6.toInt = m2.toInt + 1 := tadd e6 rfl kp1 (by omega)
          refine lv_goto (tgt := 2) hx hb dX3_hitsAllComplaints_49 (by decide) ?_
          refine ih x6 H locs ls ?_ ?_ ?_ hW (lv_sub hl [0, 2, 3] rfl)
          · show ((J 22 2).toInt - x6.toInt).toNat < n
            omega
          · show 0 ≤ x6.toInt ∧ x6.toInt ≤ (J 22 2).toInt
            first | omega | exact hi | assumption
          · show ∀ h : Nat, (h : Int) < x6.toInt → (¬ (J 112 h).toInt = 0 → ¬ (I 6 2 (elt E P 20 (J 108 h).toNatClampNeg) &&& a0).toInt = 0)
            exact hal_s hal (by omega) (by omega) (fun z => absurd (by show (J 112 m2.toNatClampNeg).toInt = 0; omega) z)
        · have c5 : ¬ x4.toInt = 0 := tne rfl kp0 c5
          refine lv_aload_n hx hb dX3_hitsAllComplaints_32 rfl (lv_at hl 0 rfl) ?_
          refine rg_2_0 C hW (List.mem_append_right _ hm3) tw_549 dX3_hitsAllComplaints_33 ?_
          obtain ⟨b7, hb7, hbm7⟩ := hwf.2.2.2.2.1 o3 hm3
          refine lv_asv (v' := .ref b7) (by show va_rf (P 2 0 o3) = _; rw [hb7]; rfl) ?_
          refine rg_6_2 C hW (List.mem_append_right _ hbm7) tw_141 dX3_hitsAllComplaints_36 ?_
          refine lv_topi (fun x8 (e8 : x8 = I 6 2 b7) => ?_)
          have t8 : x8.toInt = (I 6 2 b7).toInt := by rw [e8]
          refine lv_iload_n hx hb dX3_hitsAllComplaints_39 rfl (lv_at hl 3 rfl) ?_
          refine lv_iand hx hb dX3_hitsAllComplaints_40 ?_
          refine lv_topi (fun x9 (e9 : x9 = x8 &&& a0) => ?_)
          refine lv_if_ne (tgt := 46) hx hb dX3_hitsAllComplaints_41 (by decide) (fun c10 => ?_) (fun c10 => ?_)
          · have c10 : ¬ x9.toInt = 0 := tne rfl kp0 c10
            obtain ⟨x11, e11⟩ : ∃ y : Int32, y = m2 + 1 := ⟨_, rfl⟩
            refine lv_iinc (v := x11) (lv' := [(2, .int x11), (3, .ref o3), (0, .ref (g.2.2.1 4)), (1, .int a0)]) hx hb dX3_hitsAllComplaints_46 hl (k := 1) rfl (by rw [e11]; rfl) (by decide) rfl (fun ls hl => ?_)
            try have t11 : x11.toInt = m2.toInt + 1 := tadd e11 rfl kp1 (by omega)
            refine lv_goto (tgt := 2) hx hb dX3_hitsAllComplaints_49 (by decide) ?_
            refine ih x11 H locs ls ?_ ?_ ?_ hW (lv_sub hl [0, 2, 3] rfl)
            · show ((J 22 2).toInt - x11.toInt).toNat < n
              omega
            · show 0 ≤ x11.toInt ∧ x11.toInt ≤ (J 22 2).toInt
              first | omega | exact hi | assumption
            · show ∀ h : Nat, (h : Int) < x11.toInt → (¬ (J 112 h).toInt = 0 → ¬ (I 6 2 (elt E P 20 (J 108 h).toNatClampNeg) &&& a0).toInt = 0)
              exact hal_s hal (by omega) (by omega) (fun _ z => by (have z9 : (I 6 2 (elt E P 20 (J 108 m2.toNatClampNeg).toNatClampNeg) &&& a0).toInt = 0 := z; rw [← (e8.trans (congrArg (I 6 2) (Option.some.inj (hb7.symm.trans h91)))), ← e9] at z9; omega))
          · have c10 : x9.toInt = 0 := teq rfl kp0 c10
            refine lv_iconst (v := 0) hx hb dX3_hitsAllComplaints_44 (by decide) ?_
            subst hQ9
            exact end_z C hr hlocks (by decide) () hW ⟨by first | exact Or.inr ((by decide)), show ((0 : Int) = 1 ∧ HIT2 a0 (J 112) (J 108) (fun k => I 6 2 (elt E P 20 k)) (J 22 2).toInt) ∨ ((0 : Int) = 0 ∧ ¬ HIT2 a0 (J 112) (J 108) (fun k => I 6 2 (elt E P 20 k)) (J 22 2).toInt) from by exact Or.inr ⟨rfl, fun q => q m2.toNatClampNeg (by have h8 := tcl m2; omega) (by omega) (by show (I 6 2 (elt E P 20 (J 108 m2.toNatClampNeg).toNatClampNeg) &&& a0).toInt = 0; rw [← (e8.trans (congrArg (I 6 2) (Option.some.inj (hb7.symm.trans h91)))), ← e9]; omega)⟩⟩ dX3_hitsAllComplaints_45
  -- into the loop
  refine loop2 (((J 22 2).toInt - (0 : Int32).toInt).toNat + 1) 0 H locs ls ?_ ?_ ?_ hW (lv_sub hl [0, 1, 2] rfl)
  · exact Nat.lt_succ_self _
  · show 0 ≤ (0 : Int32).toInt ∧ (0 : Int32).toInt ≤ (J 22 2).toInt
    try rw [kp0]
    first | omega | exact hi | assumption
  · show ∀ h : Nat, (h : Int) < (0 : Int32).toInt → (¬ (J 112 h).toInt = 0 → ¬ (I 6 2 (elt E P 20 (J 108 h).toNatClampNeg) &&& a0).toInt = 0)
    try rw [kp0]
    intro h hh; exfalso; omega

set_option maxHeartbeats 4000000 in
set_option maxRecDepth 100000 in
theorem c_X3_explain_q (l : Launch) (g : gG) (J : Nat → Nat → Int32) (L : Nat → Nat → Int64) (I : Nat → Nat → Nat → Int32) (P : Nat → Nat → Nat → Option Nat) (E : Nat → Option Nat) (N : Nat → Nat) (dy : List (Nat × Nat)) (sz : Nat) (a0 : Int32) (hwf : WXF g J P E N dy) (hhm : HMR (P 2 0) (I 2 1) (I 2 2) (I 2 3) (elt E P 22) (elt E P 20) (J 108) (J 109) (J 110) (J 111) (J 22 2).toInt (J 20 2).toInt) (hcm : FLD I E P (J 112) 22 2 4 (J 22 2).toInt) (hn1 : 1 ≤ (J 20 2).toInt) (hw3 : 0 ≤ a0.toInt ∧ a0.toInt ≤ 2) : Met l yX3_explain (WS yX3_explain cX3_explain 9 (some .int)) (RM (6) 0 0) (PC g [.ref (g.2.2.1 4), .int a0] ((J, L, I, P, E, N), sgX g ++ dy) sz) (va_Qi (fun (r : Int32) (u : Unit) => (∃ o : Int32, OPN o (J 112) (J 108) (fun k => I 6 2 (elt E P 20 k)) (J 22 2).toInt (J 20 2).toInt ∧ BKR (BRF (fun t => HIT2 (SQ o t) (J 112) (J 108) (fun k => I 6 2 (elt E P 20 k)) (J 22 2).toInt) (fun t => CB (tN (SQ o t)) 32) (fun t => (SQ o t).toInt) (2 ^ CB (tN o) 24)) a0.toInt r.toInt)) (fun u t => at_ g (FR g ((J, L, I, P, E, N), sgX g ++ dy) sz) ((J, L, I, P, E, N), sgX g ++ dy) t) (FR g ((J, L, I, P, E, N), sgX g ++ dy) sz)) 0 0 (FR g ((J, L, I, P, E, N), sgX g ++ dy) sz) := by
  refine ent (by decide +kernel) (Nat.le_of_ble_eq_true rfl) ?_
  intro p e s m below meth c ls hsz C hW hr hlocks hname hl
  generalize FR g ((J, L, I, P, E, N), sgX g ++ dy) sz = A at C hW ⊢
  generalize hQ9 : (va_Qi (fun (r : Int32) (u : Unit) => (∃ o : Int32, OPN o (J 112) (J 108) (fun k => I 6 2 (elt E P 20 k)) (J 22 2).toInt (J 20 2).toInt ∧ BKR (BRF (fun t => HIT2 (SQ o t) (J 112) (J 108) (fun k => I 6 2 (elt E P 20 k)) (J 22 2).toInt) (fun t => CB (tN (SQ o t)) 32) (fun t => (SQ o t).toInt) (2 ^ CB (tN o) 24)) a0.toInt r.toInt)) (fun u t => at_ g A ((J, L, I, P, E, N), sgX g ++ dy) t) A) = Q9
  have hx := C.1.1
  have hb := C.1.2.1
  have hts := C.1.2.2.2.2
  have hl : lv_has ls 9 [(0, .ref (g.2.2.1 4)), (1, .int a0)] := hl
  obtain ⟨H, hH⟩ : ∃ H : Heap, H = s.heap := ⟨_, rfl⟩
  obtain ⟨locs, hlocs⟩ : ∃ q : List Loc, q = [] := ⟨_, rfl⟩
  have hW : WB g A s.heap H locs (J, L, I, P, E, N) (sgX g ++ dy) := by rw [hH, hlocs]; exact hW
  obtain ⟨h20a, h20b, -⟩ := hwf.1.1
  obtain ⟨h22a, h22b, -⟩ := hwf.1.2.2.1
  refine start_ hH hlocs ?_
  refine lv_aload_n hx hb dX3_explain_0 rfl (lv_at hl 0 rfl) ?_
  refine ci_ C hW (runV (x := (g.2.2.1 4)) (As := []) (rest := []) (T := ((J, L, I, P, E, N), sgX g ++ dy)) C hW (c_X3_breakable_q l g J L I P E N dy H.size  hwf (show HMR (P 2 0) (I 2 1) (I 2 2) (I 2 3) (elt E P 22) (elt E P 20) (J 108) (J 109) (J 110) (J 111) (J 22 2).toInt (J 20 2).toInt from hhm) (show FLD I E P (J 112) 22 2 4 (J 22 2).toInt from hcm) (show 1 ≤ (J 20 2).toInt from hn1)) mi_X3_breakable tw_860 (recv_ (T := ((J, L, I, P, E, N), sgX g ++ dy)) C hW (mx_ rfl) rfl rfl) ⟨rfl, rfl, Nat.le_of_ble_eq_true rfl, Nat.le_of_ble_eq_true rfl⟩ rfl hl.1 rfl (Nat.le_of_ble_eq_true rfl) dX3_explain_1 ⟨Nat.le_of_ble_eq_true rfl, Nat.le_of_ble_eq_true rfl⟩) (fun r1 u1 H locs hp1 hW => ?_)
  have hf1_0 : (OPN r1 (J 112) (J 108) (fun k => I 6 2 (elt E P 20 k)) (J 22 2).toInt (J 20 2).toInt) := hp1
  clear hp1
  have hW : WB g A s.heap H locs (J, L, I, P, E, N) (sgX g ++ dy) := hW
  have hOP := hf1_0
  obtain ⟨hoa, hob⟩ := opn_12 hOP
  have hh24 : tN r1 < 2 ^ 24 := by omega
  have hc11 := cb_11 hoa hob
  have hpw : 2 ^ CB (tN r1) 24 ≤ 2048 := Nat.pow_le_pow_right (by decide) hc11
  refine lv_istore_n (lv' := [(2, .int r1), (0, .ref (g.2.2.1 4)), (1, .int a0)]) hx hb dX3_explain_4 rfl hl (by decide) rfl (fun ls hl => ?_)
  refine lv_bipush (v := 20) hx hb dX3_explain_5 (by decide) ?_
  refine lv_istore_n (lv' := [(3, .int 20), (2, .int r1), (0, .ref (g.2.2.1 4)), (1, .int a0)]) hx hb dX3_explain_7 rfl hl (by decide) rfl (fun ls hl => ?_)
  refine lv_iconst (v := 0) hx hb dX3_explain_8 (by decide) ?_
  refine lv_istore (lv' := [(4, .int 0), (3, .int 20), (2, .int r1), (0, .ref (g.2.2.1 4)), (1, .int a0)]) hx hb dX3_explain_9 hl (by decide) rfl (fun ls hl => ?_)
  refine lv_bipush (v := (-9)) hx hb dX3_explain_11 (by decide) ?_
  refine lv_istore (lv' := [(5, .int (-9)), (4, .int 0), (3, .int 20), (2, .int r1), (0, .ref (g.2.2.1 4)), (1, .int a0)]) hx hb dX3_explain_13 hl (by decide) rfl (fun ls hl => ?_)
  refine lv_iconst (v := 0) hx hb dX3_explain_15 (by decide) ?_
  refine lv_istore (lv' := [(6, .int 0), (5, .int (-9)), (4, .int 0), (3, .int 20), (2, .int r1), (0, .ref (g.2.2.1 4)), (1, .int a0)]) hx hb dX3_explain_16 hl (by decide) rfl (fun ls hl => ?_)
  refine lv_iconst (v := 0) hx hb dX3_explain_18 (by decide) ?_
  refine lv_istore (lv' := [(7, .int 0), (6, .int 0), (5, .int (-9)), (4, .int 0), (3, .int 20), (2, .int r1), (0, .ref (g.2.2.1 4)), (1, .int a0)]) hx hb dX3_explain_19 hl (by decide) rfl (fun ls hl => ?_)
  have loop21 : ∀ (n : Nat) (m3 : Int32) (m4 : Int32) (m5 : Int32) (m6 : Int32) (m7 : Int32) (H : Heap) (locs : List Loc) (ls : Array Slot), (2048 - m7.toInt).toNat < n → 0 ≤ m7.toInt ∧ m7.toInt ≤ 2048 ∧ 0 ≤ m4.toInt ∧ m4.toInt ≤ m7.toInt → m6 = SQ r1 m7.toInt.toNat → BKS m5 m3 m4 (BRF (fun t => HIT2 (SQ r1 t) (J 112) (J 108) (fun k => I 6 2 (elt E P 20 k)) (J 22 2).toInt) (fun t => CB (tN (SQ r1 t)) 32) (fun t => (SQ r1 t).toInt) m7.toInt.toNat) → m7.toInt.toNat < 2 ^ CB (tN r1) 24 → WB g A s.heap H locs (J, L, I, P, E, N) (sgX g ++ dy) → lv_has ls 9 [(7, .int m7), (6, .int m6), (5, .int m5), (4, .int m4), (3, .int m3), (2, .int r1), (0, .ref (g.2.2.1 4)), (1, .int a0)] → W p l e (RM (6) 0 0) s m ([.ref (g.2.2.1 4), .int a0] : List Value).toArray below meth c H locs 0 0 (MQ below Q9 ([.ref (g.2.2.1 4), .int a0] : List Value).toArray s 0 0 A) (F0 m 21 ls []) := by
    intro n
    induction n with
    | zero => intro m3 m4 m5 m6 m7 H locs ls hmeas; exact absurd hmeas (Nat.not_lt_zero _)
    | succ n ih =>
      intro m3 m4 m5 m6 m7 H locs ls hmeas hi hsq hbs hlt hW hl
      refine lv_iload hx hb dX3_explain_21 (lv_at hl 0 rfl) ?_
      refine lv_sipush (v := 2048) hx hb dX3_explain_23 (by decide) ?_
      refine lv_icmp_ge (tgt := 108) hx hb dX3_explain_26 (by decide) (fun c2 => ?_) (fun c2 => ?_)
      · have c2 : 2048 ≤ m7.toInt := tle kp2048 rfl c2
        refine lv_iload hx hb dX3_explain_108 (lv_at hl 2 rfl) ?_
        refine lv_bipush (v := (-9)) hx hb dX3_explain_110 (by decide) ?_
        refine lv_icmp_ne (tgt := 118) hx hb dX3_explain_112 (by decide) (fun c3 => ?_) (fun c3 => ?_)
        · have c3 : ¬ m5.toInt = (-9) := tne rfl kn9 c3
          refine lv_iload_n hx hb dX3_explain_118 rfl (lv_at hl 7 rfl) ?_
          refine lv_if_ne (tgt := 126) hx hb dX3_explain_119 (by decide) (fun c4 => ?_) (fun c4 => ?_)
          · have c4 : ¬ a0.toInt = 0 := tne rfl kp0 c4
            refine lv_iload_n hx hb dX3_explain_126 rfl (lv_at hl 7 rfl) ?_
            refine lv_iconst (v := 1) hx hb dX3_explain_127 (by decide) ?_
            refine lv_icmp_ne (tgt := 136) hx hb dX3_explain_128 (by decide) (fun c5 => ?_) (fun c5 => ?_)
            · have c5 : ¬ a0.toInt = 1 := tne rfl kp1 c5
              refine lv_iload hx hb dX3_explain_136 (lv_at hl 2 rfl) ?_
              subst hQ9
              exact end_i C hr hlocks () hW (show ∃ o : Int32, OPN o (J 112) (J 108) (fun k => I 6 2 (elt E P 20 k)) (J 22 2).toInt (J 20 2).toInt ∧ BKR (BRF (fun t => HIT2 (SQ o t) (J 112) (J 108) (fun k => I 6 2 (elt E P 20 k)) (J 22 2).toInt) (fun t => CB (tN (SQ o t)) 32) (fun t => (SQ o t).toInt) (2 ^ CB (tN o) 24)) a0.toInt m5.toInt from by (exfalso; omega)) dX3_explain_138
            · have c5 : a0.toInt = 1 := teq rfl kp1 c5
              refine lv_iload hx hb dX3_explain_131 (lv_at hl 3 rfl) ?_
              refine lv_goto (tgt := 138) hx hb dX3_explain_133 (by decide) ?_
              subst hQ9
              exact end_i C hr hlocks () hW (show ∃ o : Int32, OPN o (J 112) (J 108) (fun k => I 6 2 (elt E P 20 k)) (J 22 2).toInt (J 20 2).toInt ∧ BKR (BRF (fun t => HIT2 (SQ o t) (J 112) (J 108) (fun k => I 6 2 (elt E P 20 k)) (J 22 2).toInt) (fun t => CB (tN (SQ o t)) 32) (fun t => (SQ o t).toInt) (2 ^ CB (tN o) 24)) a0.toInt m4.toInt from by (exfalso; omega)) dX3_explain_138
          · have c4 : a0.toInt = 0 := teq rfl kp0 c4
            refine lv_iload_n hx hb dX3_explain_122 rfl (lv_at hl 4 rfl) ?_
            refine lv_goto (tgt := 138) hx hb dX3_explain_123 (by decide) ?_
            subst hQ9
            exact end_i C hr hlocks () hW (show ∃ o : Int32, OPN o (J 112) (J 108) (fun k => I 6 2 (elt E P 20 k)) (J 22 2).toInt (J 20 2).toInt ∧ BKR (BRF (fun t => HIT2 (SQ o t) (J 112) (J 108) (fun k => I 6 2 (elt E P 20 k)) (J 22 2).toInt) (fun t => CB (tN (SQ o t)) 32) (fun t => (SQ o t).toInt) (2 ^ CB (tN o) 24)) a0.toInt m3.toInt from by (exfalso; omega)) dX3_explain_138
        · have c3 : m5.toInt = (-9) := teq rfl kn9 c3
          refine lv_bipush (v := (-9)) hx hb dX3_explain_115 (by decide) ?_
          subst hQ9
          exact end_i C hr hlocks () hW (show ∃ o : Int32, OPN o (J 112) (J 108) (fun k => I 6 2 (elt E P 20 k)) (J 22 2).toInt (J 20 2).toInt ∧ BKR (BRF (fun t => HIT2 (SQ o t) (J 112) (J 108) (fun k => I 6 2 (elt E P 20 k)) (J 22 2).toInt) (fun t => CB (tN (SQ o t)) 32) (fun t => (SQ o t).toInt) (2 ^ CB (tN o) 24)) a0.toInt (-9) from by (exfalso; omega)) dX3_explain_117
      · have c2 : m7.toInt < 2048 := tnle kp2048 rfl c2
        refine lv_iload hx hb dX3_explain_29 (lv_at hl 1 rfl) ?_
        refine ci_ C hW (runS (As := [.int m6]) (rest := []) (T := ((J, L, I, P, E, N), sgX g ++ dy)) C hW (c_J6_bitCount_0f7a4_e l g J L I P E N dy H.size m6 ) mi_J6_bitCount_0f7a4 tw_864 ⟨rfl, rfl, Nat.le_of_ble_eq_true rfl, Nat.le_of_ble_eq_true rfl⟩ rfl hl.1 rfl (Nat.le_of_ble_eq_true rfl) dX3_explain_31 ⟨Nat.le_of_ble_eq_true rfl, Nat.le_of_ble_eq_true rfl⟩) (fun r6 u6 H locs hp6 hW => ?_)
        have hf6_0 : (r6.toInt = ((CB (tN m6) 32 : Nat) : Int)) := hp6
        clear hp6
        have hW : WB g A s.heap H locs (J, L, I, P, E, N) (sgX g ++ dy) := hW
        have hZ := hf6_0
        refine lv_istore (lv' := [(8, .int r6), (7, .int m7), (6, .int m6), (5, .int m5), (4, .int m4), (3, .int m3), (2, .int r1), (0, .ref (g.2.2.1 4)), (1, .int a0)]) hx hb dX3_explain_34 hl (by decide) rfl (fun ls hl => ?_)
        rw [show (CB (tN m6) 32 : Nat) = CB (tN (SQ r1 m7.toInt.toNat)) 32 by rw [hsq]] at hZ
        have hZ9 : CB (tN (SQ r1 m7.toInt.toNat)) 32 < 20 := by (have h9 := sq_12 hoa m7.toInt.toNat; omega)
        refine lv_iload hx hb dX3_explain_36 (lv_at hl 0 rfl) ?_
        refine lv_iload_n hx hb dX3_explain_38 rfl (lv_at hl 5 rfl) ?_
        refine lv_icmp_gt (tgt := 85) hx hb dX3_explain_39 (by decide) (fun c7 => ?_) (fun c7 => ?_)
        · have c7 : m3.toInt < r6.toInt := tlt rfl rfl c7
          refine lv_iload hx hb dX3_explain_85 (lv_at hl 2 rfl) ?_
          refine lv_iload_n hx hb dX3_explain_87 rfl (lv_at hl 6 rfl) ?_
          refine lv_icmp_ne (tgt := 94) hx hb dX3_explain_88 (by decide) (fun c8 => ?_) (fun c8 => ?_)
          · have c8 : ¬ m6.toInt = r1.toInt := tne rfl rfl c8
            refine lv_iload hx hb dX3_explain_94 (lv_at hl 2 rfl) ?_
            refine lv_iload_n hx hb dX3_explain_96 rfl (lv_at hl 6 rfl) ?_
            refine lv_isub hx hb dX3_explain_97 ?_
            refine lv_topi (fun x9 (e9 : x9 = m6 - r1) => ?_)
            refine lv_iload_n hx hb dX3_explain_98 rfl (lv_at hl 6 rfl) ?_
            refine lv_iand hx hb dX3_explain_99 ?_
            refine lv_topi (fun x10 (e10 : x10 = x9 &&& r1) => ?_)
            refine lv_istore (lv' := [(6, .int x10), (8, .int r6), (7, .int m7), (5, .int m5), (4, .int m4), (3, .int m3), (2, .int r1), (0, .ref (g.2.2.1 4)), (1, .int a0)]) hx hb dX3_explain_100 hl (by decide) rfl (fun ls hl => ?_)
            obtain ⟨x11, e11⟩ : ∃ y : Int32, y = m7 + 1 := ⟨_, rfl⟩
            refine lv_iinc (v := x11) (lv' := [(7, .int x11), (6, .int x10), (8, .int r6), (5, .int m5), (4, .int m4), (3, .int m3), (2, .int r1), (0, .ref (g.2.2.1 4)), (1, .int a0)]) hx hb dX3_explain_102 hl (k := 2) rfl (by rw [e11]; rfl) (by decide) rfl (fun ls hl => ?_)
            try have t11 : x11.toInt = m7.toInt + 1 := tadd e11 rfl kp1 (by omega)
            refine lv_goto (tgt := 21) hx hb dX3_explain_105 (by decide) ?_
            refine ih m3 m4 m5 x10 x11 H locs ls ?_ ?_ ?_ ?_ ?_ hW (lv_sub hl [0, 1, 3, 4, 5, 6, 7, 8] rfl)
            · show (2048 - x11.toInt).toNat < n
              omega
            · show 0 ≤ x11.toInt ∧ x11.toInt ≤ 2048 ∧ 0 ≤ m4.toInt ∧ m4.toInt ≤ x11.toInt
              (have k1 := kp1; omega)
            · show x10 = SQ r1 x11.toInt.toNat
              (have eN : (x11).toInt.toNat = m7.toInt.toNat + 1 := (by omega); rw [eN]; exact sq_1 e9 e10 hsq)
            · show BKS m5 m3 m4 (BRF (fun t => HIT2 (SQ r1 t) (J 112) (J 108) (fun k => I 6 2 (elt E P 20 k)) (J 22 2).toInt) (fun t => CB (tN (SQ r1 t)) 32) (fun t => (SQ r1 t).toInt) x11.toInt.toNat)
              (have eN : (x11).toInt.toNat = m7.toInt.toNat + 1 := (by omega); rw [eN]; exact (bks_n hbs hZ hZ9 (Or.inr (by omega))))
            · show x11.toInt.toNat < 2 ^ CB (tN r1) 24
              (have hM := sq_more hh24 (fun q => by have q9 := congrArg Int32.toInt (hsq.trans q); omega) hlt; omega)
          · have c8 : m6.toInt = r1.toInt := teq rfl rfl c8
            refine lv_goto (tgt := 108) hx hb dX3_explain_91 (by decide) ?_
            refine lv_iload hx hb dX3_explain_108 (lv_at hl 3 rfl) ?_
            refine lv_bipush (v := (-9)) hx hb dX3_explain_110 (by decide) ?_
            refine lv_icmp_ne (tgt := 118) hx hb dX3_explain_112 (by decide) (fun c12 => ?_) (fun c12 => ?_)
            · have c12 : ¬ m5.toInt = (-9) := tne rfl kn9 c12
              refine lv_iload_n hx hb dX3_explain_118 rfl (lv_at hl 8 rfl) ?_
              refine lv_if_ne (tgt := 126) hx hb dX3_explain_119 (by decide) (fun c13 => ?_) (fun c13 => ?_)
              · have c13 : ¬ a0.toInt = 0 := tne rfl kp0 c13
                refine lv_iload_n hx hb dX3_explain_126 rfl (lv_at hl 8 rfl) ?_
                refine lv_iconst (v := 1) hx hb dX3_explain_127 (by decide) ?_
                refine lv_icmp_ne (tgt := 136) hx hb dX3_explain_128 (by decide) (fun c14 => ?_) (fun c14 => ?_)
                · have c14 : ¬ a0.toInt = 1 := tne rfl kp1 c14
                  refine lv_iload hx hb dX3_explain_136 (lv_at hl 3 rfl) ?_
                  subst hQ9
                  exact end_i C hr hlocks () hW (show ∃ o : Int32, OPN o (J 112) (J 108) (fun k => I 6 2 (elt E P 20 k)) (J 22 2).toInt (J 20 2).toInt ∧ BKR (BRF (fun t => HIT2 (SQ o t) (J 112) (J 108) (fun k => I 6 2 (elt E P 20 k)) (J 22 2).toInt) (fun t => CB (tN (SQ o t)) 32) (fun t => (SQ o t).toInt) (2 ^ CB (tN o) 24)) a0.toInt m5.toInt from by (have hE := sq_end hh24 (hsq.symm.trans (ext_i (by omega))) hlt; have hX9 : BKS m5 m3 m4 (BRF (fun t => HIT2 (SQ r1 t) (J 112) (J 108) (fun k => I 6 2 (elt E P 20 k)) (J 22 2).toInt) (fun t => CB (tN (SQ r1 t)) 32) (fun t => (SQ r1 t).toInt) (m7.toInt.toNat + 1)) := (bks_n hbs hZ hZ9 (Or.inr (by omega))); rw [hE] at hX9; have k1 := kp1; have k9 := kn9; exact ⟨_, hOP, bks_r hX9 (fun q => by first | rfl | omega) (fun q => ⟨fun y => by omega, fun y => by omega, fun y => by omega⟩)⟩)) dX3_explain_138
                · have c14 : a0.toInt = 1 := teq rfl kp1 c14
                  refine lv_iload hx hb dX3_explain_131 (lv_at hl 4 rfl) ?_
                  refine lv_goto (tgt := 138) hx hb dX3_explain_133 (by decide) ?_
                  subst hQ9
                  exact end_i C hr hlocks () hW (show ∃ o : Int32, OPN o (J 112) (J 108) (fun k => I 6 2 (elt E P 20 k)) (J 22 2).toInt (J 20 2).toInt ∧ BKR (BRF (fun t => HIT2 (SQ o t) (J 112) (J 108) (fun k => I 6 2 (elt E P 20 k)) (J 22 2).toInt) (fun t => CB (tN (SQ o t)) 32) (fun t => (SQ o t).toInt) (2 ^ CB (tN o) 24)) a0.toInt m4.toInt from by (have hE := sq_end hh24 (hsq.symm.trans (ext_i (by omega))) hlt; have hX9 : BKS m5 m3 m4 (BRF (fun t => HIT2 (SQ r1 t) (J 112) (J 108) (fun k => I 6 2 (elt E P 20 k)) (J 22 2).toInt) (fun t => CB (tN (SQ r1 t)) 32) (fun t => (SQ r1 t).toInt) (m7.toInt.toNat + 1)) := (bks_n hbs hZ hZ9 (Or.inr (by omega))); rw [hE] at hX9; have k1 := kp1; have k9 := kn9; exact ⟨_, hOP, bks_r hX9 (fun q => by first | rfl | omega) (fun q => ⟨fun y => by omega, fun y => by omega, fun y => by omega⟩)⟩)) dX3_explain_138
              · have c13 : a0.toInt = 0 := teq rfl kp0 c13
                refine lv_iload_n hx hb dX3_explain_122 rfl (lv_at hl 5 rfl) ?_
                refine lv_goto (tgt := 138) hx hb dX3_explain_123 (by decide) ?_
                subst hQ9
                exact end_i C hr hlocks () hW (show ∃ o : Int32, OPN o (J 112) (J 108) (fun k => I 6 2 (elt E P 20 k)) (J 22 2).toInt (J 20 2).toInt ∧ BKR (BRF (fun t => HIT2 (SQ o t) (J 112) (J 108) (fun k => I 6 2 (elt E P 20 k)) (J 22 2).toInt) (fun t => CB (tN (SQ o t)) 32) (fun t => (SQ o t).toInt) (2 ^ CB (tN o) 24)) a0.toInt m3.toInt from by (have hE := sq_end hh24 (hsq.symm.trans (ext_i (by omega))) hlt; have hX9 : BKS m5 m3 m4 (BRF (fun t => HIT2 (SQ r1 t) (J 112) (J 108) (fun k => I 6 2 (elt E P 20 k)) (J 22 2).toInt) (fun t => CB (tN (SQ r1 t)) 32) (fun t => (SQ r1 t).toInt) (m7.toInt.toNat + 1)) := (bks_n hbs hZ hZ9 (Or.inr (by omega))); rw [hE] at hX9; have k1 := kp1; have k9 := kn9; exact ⟨_, hOP, bks_r hX9 (fun q => by first | rfl | omega) (fun q => ⟨fun y => by omega, fun y => by omega, fun y => by omega⟩)⟩)) dX3_explain_138
            · have c12 : m5.toInt = (-9) := teq rfl kn9 c12
              refine lv_bipush (v := (-9)) hx hb dX3_explain_115 (by decide) ?_
              subst hQ9
              exact end_i C hr hlocks () hW (show ∃ o : Int32, OPN o (J 112) (J 108) (fun k => I 6 2 (elt E P 20 k)) (J 22 2).toInt (J 20 2).toInt ∧ BKR (BRF (fun t => HIT2 (SQ o t) (J 112) (J 108) (fun k => I 6 2 (elt E P 20 k)) (J 22 2).toInt) (fun t => CB (tN (SQ o t)) 32) (fun t => (SQ o t).toInt) (2 ^ CB (tN o) 24)) a0.toInt (-9) from by (have hE := sq_end hh24 (hsq.symm.trans (ext_i (by omega))) hlt; have hX9 : BKS m5 m3 m4 (BRF (fun t => HIT2 (SQ r1 t) (J 112) (J 108) (fun k => I 6 2 (elt E P 20 k)) (J 22 2).toInt) (fun t => CB (tN (SQ r1 t)) 32) (fun t => (SQ r1 t).toInt) (m7.toInt.toNat + 1)) := (bks_n hbs hZ hZ9 (Or.inr (by omega))); rw [hE] at hX9; have k1 := kp1; have k9 := kn9; exact ⟨_, hOP, bks_r hX9 (fun q => by first | rfl | omega) (fun q => ⟨fun y => by omega, fun y => by omega, fun y => by omega⟩)⟩)) dX3_explain_117
        · have c7 : r6.toInt ≤ m3.toInt := tnlt rfl rfl c7
          refine lv_aload_n hx hb dX3_explain_42 rfl (lv_at hl 7 rfl) ?_
          refine lv_iload hx hb dX3_explain_43 (lv_at hl 2 rfl) ?_
          refine ci_ C hW (runV (x := (g.2.2.1 4)) (As := [.int m6]) (rest := []) (T := ((J, L, I, P, E, N), sgX g ++ dy)) C hW (c_X3_hitsAllComplaints_q l g J L I P E N dy H.size m6 hwf (show HMR (P 2 0) (I 2 1) (I 2 2) (I 2 3) (elt E P 22) (elt E P 20) (J 108) (J 109) (J 110) (J 111) (J 22 2).toInt (J 20 2).toInt from hhm) (show FLD I E P (J 112) 22 2 4 (J 22 2).toInt from hcm)) mi_X3_hitsAllComplaints tw_870 (recv_ (T := ((J, L, I, P, E, N), sgX g ++ dy)) C hW (mx_ rfl) rfl rfl) ⟨rfl, rfl, Nat.le_of_ble_eq_true rfl, Nat.le_of_ble_eq_true rfl⟩ rfl hl.1 rfl (Nat.le_of_ble_eq_true rfl) dX3_explain_45 ⟨Nat.le_of_ble_eq_true rfl, Nat.le_of_ble_eq_true rfl⟩) (fun r15 u15 H locs hp15 hW => ?_)
          obtain ⟨hc15, hf15_0⟩ : ((r15.toInt = 1) ∨ (r15.toInt = 0)) ∧ (((r15.toInt : Int) = 1 ∧ HIT2 m6 (J 112) (J 108) (fun k => I 6 2 (elt E P 20 k)) (J 22 2).toInt) ∨ ((r15.toInt : Int) = 0 ∧ ¬ HIT2 m6 (J 112) (J 108) (fun k => I 6 2 (elt E P 20 k)) (J 22 2).toInt)) := hp15
          have hW : WB g A s.heap H locs (J, L, I, P, E, N) (sgX g ++ dy) := hW
          have hHA := hf15_0
          rw [hsq] at hHA
          refine lv_if_eq (tgt := 85) hx hb dX3_explain_48 (by decide) (fun c16 => ?_) (fun c16 => ?_)
          · have c16 : r15.toInt = 0 := teq rfl kp0 c16
            refine lv_iload hx hb dX3_explain_85 (lv_at hl 2 rfl) ?_
            refine lv_iload_n hx hb dX3_explain_87 rfl (lv_at hl 6 rfl) ?_
            refine lv_icmp_ne (tgt := 94) hx hb dX3_explain_88 (by decide) (fun c17 => ?_) (fun c17 => ?_)
            · have c17 : ¬ m6.toInt = r1.toInt := tne rfl rfl c17
              refine lv_iload hx hb dX3_explain_94 (lv_at hl 2 rfl) ?_
              refine lv_iload_n hx hb dX3_explain_96 rfl (lv_at hl 6 rfl) ?_
              refine lv_isub hx hb dX3_explain_97 ?_
              refine lv_topi (fun x18 (e18 : x18 = m6 - r1) => ?_)
              refine lv_iload_n hx hb dX3_explain_98 rfl (lv_at hl 6 rfl) ?_
              refine lv_iand hx hb dX3_explain_99 ?_
              refine lv_topi (fun x19 (e19 : x19 = x18 &&& r1) => ?_)
              refine lv_istore (lv' := [(6, .int x19), (8, .int r6), (7, .int m7), (5, .int m5), (4, .int m4), (3, .int m3), (2, .int r1), (0, .ref (g.2.2.1 4)), (1, .int a0)]) hx hb dX3_explain_100 hl (by decide) rfl (fun ls hl => ?_)
              obtain ⟨x20, e20⟩ : ∃ y : Int32, y = m7 + 1 := ⟨_, rfl⟩
              refine lv_iinc (v := x20) (lv' := [(7, .int x20), (6, .int x19), (8, .int r6), (5, .int m5), (4, .int m4), (3, .int m3), (2, .int r1), (0, .ref (g.2.2.1 4)), (1, .int a0)]) hx hb dX3_explain_102 hl (k := 2) rfl (by rw [e20]; rfl) (by decide) rfl (fun ls hl => ?_)
              try have t20 : x20.toInt = m7.toInt + 1 := tadd e20 rfl kp1 (by omega)
              refine lv_goto (tgt := 21) hx hb dX3_explain_105 (by decide) ?_
              refine ih m3 m4 m5 x19 x20 H locs ls ?_ ?_ ?_ ?_ ?_ hW (lv_sub hl [0, 1, 3, 4, 5, 6, 7, 8] rfl)
              · show (2048 - x20.toInt).toNat < n
                omega
              · show 0 ≤ x20.toInt ∧ x20.toInt ≤ 2048 ∧ 0 ≤ m4.toInt ∧ m4.toInt ≤ x20.toInt
                (have k1 := kp1; omega)
              · show x19 = SQ r1 x20.toInt.toNat
                (have eN : (x20).toInt.toNat = m7.toInt.toNat + 1 := (by omega); rw [eN]; exact sq_1 e18 e19 hsq)
              · show BKS m5 m3 m4 (BRF (fun t => HIT2 (SQ r1 t) (J 112) (J 108) (fun k => I 6 2 (elt E P 20 k)) (J 22 2).toInt) (fun t => CB (tN (SQ r1 t)) 32) (fun t => (SQ r1 t).toInt) x20.toInt.toNat)
                (have eN : (x20).toInt.toNat = m7.toInt.toNat + 1 := (by omega); rw [eN]; exact (bks_n hbs hZ hZ9 (Or.inl (hHA.elim (fun q => absurd q.1 (by omega)) (fun q => q.2)))))
              · show x20.toInt.toNat < 2 ^ CB (tN r1) 24
                (have hM := sq_more hh24 (fun q => by have q9 := congrArg Int32.toInt (hsq.trans q); omega) hlt; omega)
            · have c17 : m6.toInt = r1.toInt := teq rfl rfl c17
              refine lv_goto (tgt := 108) hx hb dX3_explain_91 (by decide) ?_
              refine lv_iload hx hb dX3_explain_108 (lv_at hl 3 rfl) ?_
              refine lv_bipush (v := (-9)) hx hb dX3_explain_110 (by decide) ?_
              refine lv_icmp_ne (tgt := 118) hx hb dX3_explain_112 (by decide) (fun c21 => ?_) (fun c21 => ?_)
              · have c21 : ¬ m5.toInt = (-9) := tne rfl kn9 c21
                refine lv_iload_n hx hb dX3_explain_118 rfl (lv_at hl 8 rfl) ?_
                refine lv_if_ne (tgt := 126) hx hb dX3_explain_119 (by decide) (fun c22 => ?_) (fun c22 => ?_)
                · have c22 : ¬ a0.toInt = 0 := tne rfl kp0 c22
                  refine lv_iload_n hx hb dX3_explain_126 rfl (lv_at hl 8 rfl) ?_
                  refine lv_iconst (v := 1) hx hb dX3_explain_127 (by decide) ?_
                  refine lv_icmp_ne (tgt := 136) hx hb dX3_explain_128 (by decide) (fun c23 => ?_) (fun c23 => ?_)
                  · have c23 : ¬ a0.toInt = 1 := tne rfl kp1 c23
                    refine lv_iload hx hb dX3_explain_136 (lv_at hl 3 rfl) ?_
                    subst hQ9
                    exact end_i C hr hlocks () hW (show ∃ o : Int32, OPN o (J 112) (J 108) (fun k => I 6 2 (elt E P 20 k)) (J 22 2).toInt (J 20 2).toInt ∧ BKR (BRF (fun t => HIT2 (SQ o t) (J 112) (J 108) (fun k => I 6 2 (elt E P 20 k)) (J 22 2).toInt) (fun t => CB (tN (SQ o t)) 32) (fun t => (SQ o t).toInt) (2 ^ CB (tN o) 24)) a0.toInt m5.toInt from by (have hE := sq_end hh24 (hsq.symm.trans (ext_i (by omega))) hlt; have hX9 : BKS m5 m3 m4 (BRF (fun t => HIT2 (SQ r1 t) (J 112) (J 108) (fun k => I 6 2 (elt E P 20 k)) (J 22 2).toInt) (fun t => CB (tN (SQ r1 t)) 32) (fun t => (SQ r1 t).toInt) (m7.toInt.toNat + 1)) := (bks_n hbs hZ hZ9 (Or.inl (hHA.elim (fun q => absurd q.1 (by omega)) (fun q => q.2)))); rw [hE] at hX9; have k1 := kp1; have k9 := kn9; exact ⟨_, hOP, bks_r hX9 (fun q => by first | rfl | omega) (fun q => ⟨fun y => by omega, fun y => by omega, fun y => by omega⟩)⟩)) dX3_explain_138
                  · have c23 : a0.toInt = 1 := teq rfl kp1 c23
                    refine lv_iload hx hb dX3_explain_131 (lv_at hl 4 rfl) ?_
                    refine lv_goto (tgt := 138) hx hb dX3_explain_133 (by decide) ?_
                    subst hQ9
                    exact end_i C hr hlocks () hW (show ∃ o : Int32, OPN o (J 112) (J 108) (fun k => I 6 2 (elt E P 20 k)) (J 22 2).toInt (J 20 2).toInt ∧ BKR (BRF (fun t => HIT2 (SQ o t) (J 112) (J 108) (fun k => I 6 2 (elt E P 20 k)) (J 22 2).toInt) (fun t => CB (tN (SQ o t)) 32) (fun t => (SQ o t).toInt) (2 ^ CB (tN o) 24)) a0.toInt m4.toInt from by (have hE := sq_end hh24 (hsq.symm.trans (ext_i (by omega))) hlt; have hX9 : BKS m5 m3 m4 (BRF (fun t => HIT2 (SQ r1 t) (J 112) (J 108) (fun k => I 6 2 (elt E P 20 k)) (J 22 2).toInt) (fun t => CB (tN (SQ r1 t)) 32) (fun t => (SQ r1 t).toInt) (m7.toInt.toNat + 1)) := (bks_n hbs hZ hZ9 (Or.inl (hHA.elim (fun q => absurd q.1 (by omega)) (fun q => q.2)))); rw [hE] at hX9; have k1 := kp1; have k9 := kn9; exact ⟨_, hOP, bks_r hX9 (fun q => by first | rfl | omega) (fun q => ⟨fun y => by omega, fun y => by omega, fun y => by omega⟩)⟩)) dX3_explain_138
                · have c22 : a0.toInt = 0 := teq rfl kp0 c22
                  refine lv_iload_n hx hb dX3_explain_122 rfl (lv_at hl 5 rfl) ?_
                  refine lv_goto (tgt := 138) hx hb dX3_explain_123 (by decide) ?_
                  subst hQ9
                  exact end_i C hr hlocks () hW (show ∃ o : Int32, OPN o (J 112) (J 108) (fun k => I 6 2 (elt E P 20 k)) (J 22 2).toInt (J 20 2).toInt ∧ BKR (BRF (fun t => HIT2 (SQ o t) (J 112) (J 108) (fun k => I 6 2 (elt E P 20 k)) (J 22 2).toInt) (fun t => CB (tN (SQ o t)) 32) (fun t => (SQ o t).toInt) (2 ^ CB (tN o) 24)) a0.toInt m3.toInt from by (have hE := sq_end hh24 (hsq.symm.trans (ext_i (by omega))) hlt; have hX9 : BKS m5 m3 m4 (BRF (fun t => HIT2 (SQ r1 t) (J 112) (J 108) (fun k => I 6 2 (elt E P 20 k)) (J 22 2).toInt) (fun t => CB (tN (SQ r1 t)) 32) (fun t => (SQ r1 t).toInt) (m7.toInt.toNat + 1)) := (bks_n hbs hZ hZ9 (Or.inl (hHA.elim (fun q => absurd q.1 (by omega)) (fun q => q.2)))); rw [hE] at hX9; have k1 := kp1; have k9 := kn9; exact ⟨_, hOP, bks_r hX9 (fun q => by first | rfl | omega) (fun q => ⟨fun y => by omega, fun y => by omega, fun y => by omega⟩)⟩)) dX3_explain_138
              · have c21 : m5.toInt = (-9) := teq rfl kn9 c21
                refine lv_bipush (v := (-9)) hx hb dX3_explain_115 (by decide) ?_
                subst hQ9
                exact end_i C hr hlocks () hW (show ∃ o : Int32, OPN o (J 112) (J 108) (fun k => I 6 2 (elt E P 20 k)) (J 22 2).toInt (J 20 2).toInt ∧ BKR (BRF (fun t => HIT2 (SQ o t) (J 112) (J 108) (fun k => I 6 2 (elt E P 20 k)) (J 22 2).toInt) (fun t => CB (tN (SQ o t)) 32) (fun t => (SQ o t).toInt) (2 ^ CB (tN o) 24)) a0.toInt (-9) from by (have hE := sq_end hh24 (hsq.symm.trans (ext_i (by omega))) hlt; have hX9 : BKS m5 m3 m4 (BRF (fun t => HIT2 (SQ r1 t) (J 112) (J 108) (fun k => I 6 2 (elt E P 20 k)) (J 22 2).toInt) (fun t => CB (tN (SQ r1 t)) 32) (fun t => (SQ r1 t).toInt) (m7.toInt.toNat + 1)) := (bks_n hbs hZ hZ9 (Or.inl (hHA.elim (fun q => absurd q.1 (by omega)) (fun q => q.2)))); rw [hE] at hX9; have k1 := kp1; have k9 := kn9; exact ⟨_, hOP, bks_r hX9 (fun q => by first | rfl | omega) (fun q => ⟨fun y => by omega, fun y => by omega, fun y => by omega⟩)⟩)) dX3_explain_117
          · have c16 : ¬ r15.toInt = 0 := tne rfl kp0 c16
            refine lv_iload hx hb dX3_explain_51 (lv_at hl 0 rfl) ?_
            refine lv_iload_n hx hb dX3_explain_53 rfl (lv_at hl 5 rfl) ?_
            refine lv_icmp_ge (tgt := 61) hx hb dX3_explain_54 (by decide) (fun c24 => ?_) (fun c24 => ?_)
            · have c24 : m3.toInt ≤ r6.toInt := tle rfl rfl c24
              refine lv_iload hx hb dX3_explain_61 (lv_at hl 4 rfl) ?_
              refine lv_iconst (v := 1) hx hb dX3_explain_63 (by decide) ?_
              refine lv_iadd hx hb dX3_explain_64 ?_
              refine lv_topi (fun x25 (e25 : x25 = m4 + 1) => ?_)
              try have t25 : x25.toInt = m4.toInt + 1 := tadd e25 rfl kp1 (by omega)
              refine lv_istore (lv' := [(4, .int x25), (8, .int r6), (7, .int m7), (6, .int m6), (5, .int m5), (3, .int m3), (2, .int r1), (0, .ref (g.2.2.1 4)), (1, .int a0)]) hx hb dX3_explain_65 hl (by decide) rfl (fun ls hl => ?_)
              refine lv_iload hx hb dX3_explain_67 (lv_at hl 1 rfl) ?_
              refine lv_iload_n hx hb dX3_explain_69 rfl (lv_at hl 5 rfl) ?_
              refine lv_icmp_ge (tgt := 78) hx hb dX3_explain_70 (by decide) (fun c26 => ?_) (fun c26 => ?_)
              · have c26 : m3.toInt ≤ r6.toInt := tle rfl rfl c26
                refine lv_iload hx hb dX3_explain_78 (lv_at hl 4 rfl) ?_
                refine lv_istore (lv' := [(5, .int m5), (4, .int x25), (8, .int r6), (7, .int m7), (6, .int m6), (3, .int m3), (2, .int r1), (0, .ref (g.2.2.1 4)), (1, .int a0)]) hx hb dX3_explain_80 hl (by decide) rfl (fun ls hl => ?_)
                refine lv_iload hx hb dX3_explain_82 (lv_at hl 2 rfl) ?_
                refine lv_istore_n (lv' := [(3, .int r6), (5, .int m5), (4, .int x25), (8, .int r6), (7, .int m7), (6, .int m6), (2, .int r1), (0, .ref (g.2.2.1 4)), (1, .int a0)]) hx hb dX3_explain_84 rfl hl (by decide) rfl (fun ls hl => ?_)
                refine lv_iload hx hb dX3_explain_85 (lv_at hl 5 rfl) ?_
                refine lv_iload_n hx hb dX3_explain_87 rfl (lv_at hl 6 rfl) ?_
                refine lv_icmp_ne (tgt := 94) hx hb dX3_explain_88 (by decide) (fun c27 => ?_) (fun c27 => ?_)
                · have c27 : ¬ m6.toInt = r1.toInt := tne rfl rfl c27
                  refine lv_iload hx hb dX3_explain_94 (lv_at hl 5 rfl) ?_
                  refine lv_iload_n hx hb dX3_explain_96 rfl (lv_at hl 6 rfl) ?_
                  refine lv_isub hx hb dX3_explain_97 ?_
                  refine lv_topi (fun x28 (e28 : x28 = m6 - r1) => ?_)
                  refine lv_iload_n hx hb dX3_explain_98 rfl (lv_at hl 6 rfl) ?_
                  refine lv_iand hx hb dX3_explain_99 ?_
                  refine lv_topi (fun x29 (e29 : x29 = x28 &&& r1) => ?_)
                  refine lv_istore (lv' := [(6, .int x29), (3, .int r6), (5, .int m5), (4, .int x25), (8, .int r6), (7, .int m7), (2, .int r1), (0, .ref (g.2.2.1 4)), (1, .int a0)]) hx hb dX3_explain_100 hl (by decide) rfl (fun ls hl => ?_)
                  obtain ⟨x30, e30⟩ : ∃ y : Int32, y = m7 + 1 := ⟨_, rfl⟩
                  refine lv_iinc (v := x30) (lv' := [(7, .int x30), (6, .int x29), (3, .int r6), (5, .int m5), (4, .int x25), (8, .int r6), (2, .int r1), (0, .ref (g.2.2.1 4)), (1, .int a0)]) hx hb dX3_explain_102 hl (k := 5) rfl (by rw [e30]; rfl) (by decide) rfl (fun ls hl => ?_)
                  try have t30 : x30.toInt = m7.toInt + 1 := tadd e30 rfl kp1 (by omega)
                  refine lv_goto (tgt := 21) hx hb dX3_explain_105 (by decide) ?_
                  refine ih r6 x25 m5 x29 x30 H locs ls ?_ ?_ ?_ ?_ ?_ hW (lv_sub hl [0, 1, 3, 4, 2, 6, 7, 8] rfl)
                  · show (2048 - x30.toInt).toNat < n
                    omega
                  · show 0 ≤ x30.toInt ∧ x30.toInt ≤ 2048 ∧ 0 ≤ x25.toInt ∧ x25.toInt ≤ x30.toInt
                    (have k1 := kp1; omega)
                  · show x29 = SQ r1 x30.toInt.toNat
                    (have eN : (x30).toInt.toNat = m7.toInt.toNat + 1 := (by omega); rw [eN]; exact sq_1 e28 e29 hsq)
                  · show BKS m5 r6 x25 (BRF (fun t => HIT2 (SQ r1 t) (J 112) (J 108) (fun k => I 6 2 (elt E P 20 k)) (J 22 2).toInt) (fun t => CB (tN (SQ r1 t)) 32) (fun t => (SQ r1 t).toInt) x30.toInt.toNat)
                    (have eN : (x30).toInt.toNat = m7.toInt.toNat + 1 := (by omega); rw [eN]; exact bks_e (z := r6) (r' := x25) hbs hZ (by omega) hZ9 (hHA.elim (fun q => q.2) (fun q => absurd q.1 (by omega))) (by omega))
                  · show x30.toInt.toNat < 2 ^ CB (tN r1) 24
                    (have hM := sq_more hh24 (fun q => by have q9 := congrArg Int32.toInt (hsq.trans q); omega) hlt; omega)
                · have c27 : m6.toInt = r1.toInt := teq rfl rfl c27
                  refine lv_goto (tgt := 108) hx hb dX3_explain_91 (by decide) ?_
                  refine lv_iload hx hb dX3_explain_108 (lv_at hl 1 rfl) ?_
                  refine lv_bipush (v := (-9)) hx hb dX3_explain_110 (by decide) ?_
                  refine lv_icmp_ne (tgt := 118) hx hb dX3_explain_112 (by decide) (fun c31 => ?_) (fun c31 => ?_)
                  · have c31 : ¬ m5.toInt = (-9) := tne rfl kn9 c31
                    refine lv_iload_n hx hb dX3_explain_118 rfl (lv_at hl 8 rfl) ?_
                    refine lv_if_ne (tgt := 126) hx hb dX3_explain_119 (by decide) (fun c32 => ?_) (fun c32 => ?_)
                    · have c32 : ¬ a0.toInt = 0 := tne rfl kp0 c32
                      refine lv_iload_n hx hb dX3_explain_126 rfl (lv_at hl 8 rfl) ?_
                      refine lv_iconst (v := 1) hx hb dX3_explain_127 (by decide) ?_
                      refine lv_icmp_ne (tgt := 136) hx hb dX3_explain_128 (by decide) (fun c33 => ?_) (fun c33 => ?_)
                      · have c33 : ¬ a0.toInt = 1 := tne rfl kp1 c33
                        refine lv_iload hx hb dX3_explain_136 (lv_at hl 1 rfl) ?_
                        subst hQ9
                        exact end_i C hr hlocks () hW (show ∃ o : Int32, OPN o (J 112) (J 108) (fun k => I 6 2 (elt E P 20 k)) (J 22 2).toInt (J 20 2).toInt ∧ BKR (BRF (fun t => HIT2 (SQ o t) (J 112) (J 108) (fun k => I 6 2 (elt E P 20 k)) (J 22 2).toInt) (fun t => CB (tN (SQ o t)) 32) (fun t => (SQ o t).toInt) (2 ^ CB (tN o) 24)) a0.toInt m5.toInt from by (have hE := sq_end hh24 (hsq.symm.trans (ext_i (by omega))) hlt; have hX9 : BKS m5 r6 x25 (BRF (fun t => HIT2 (SQ r1 t) (J 112) (J 108) (fun k => I 6 2 (elt E P 20 k)) (J 22 2).toInt) (fun t => CB (tN (SQ r1 t)) 32) (fun t => (SQ r1 t).toInt) (m7.toInt.toNat + 1)) := bks_e (z := r6) (r' := x25) hbs hZ (by omega) hZ9 (hHA.elim (fun q => q.2) (fun q => absurd q.1 (by omega))) (by omega); rw [hE] at hX9; have k1 := kp1; have k9 := kn9; exact ⟨_, hOP, bks_r hX9 (fun q => by first | rfl | omega) (fun q => ⟨fun y => by omega, fun y => by omega, fun y => by omega⟩)⟩)) dX3_explain_138
                      · have c33 : a0.toInt = 1 := teq rfl kp1 c33
                        refine lv_iload hx hb dX3_explain_131 (lv_at hl 2 rfl) ?_
                        refine lv_goto (tgt := 138) hx hb dX3_explain_133 (by decide) ?_
                        subst hQ9
                        exact end_i C hr hlocks () hW (show ∃ o : Int32, OPN o (J 112) (J 108) (fun k => I 6 2 (elt E P 20 k)) (J 22 2).toInt (J 20 2).toInt ∧ BKR (BRF (fun t => HIT2 (SQ o t) (J 112) (J 108) (fun k => I 6 2 (elt E P 20 k)) (J 22 2).toInt) (fun t => CB (tN (SQ o t)) 32) (fun t => (SQ o t).toInt) (2 ^ CB (tN o) 24)) a0.toInt x25.toInt from by (have hE := sq_end hh24 (hsq.symm.trans (ext_i (by omega))) hlt; have hX9 : BKS m5 r6 x25 (BRF (fun t => HIT2 (SQ r1 t) (J 112) (J 108) (fun k => I 6 2 (elt E P 20 k)) (J 22 2).toInt) (fun t => CB (tN (SQ r1 t)) 32) (fun t => (SQ r1 t).toInt) (m7.toInt.toNat + 1)) := bks_e (z := r6) (r' := x25) hbs hZ (by omega) hZ9 (hHA.elim (fun q => q.2) (fun q => absurd q.1 (by omega))) (by omega); rw [hE] at hX9; have k1 := kp1; have k9 := kn9; exact ⟨_, hOP, bks_r hX9 (fun q => by first | rfl | omega) (fun q => ⟨fun y => by omega, fun y => by omega, fun y => by omega⟩)⟩)) dX3_explain_138
                    · have c32 : a0.toInt = 0 := teq rfl kp0 c32
                      refine lv_iload_n hx hb dX3_explain_122 rfl (lv_at hl 0 rfl) ?_
                      refine lv_goto (tgt := 138) hx hb dX3_explain_123 (by decide) ?_
                      subst hQ9
                      exact end_i C hr hlocks () hW (show ∃ o : Int32, OPN o (J 112) (J 108) (fun k => I 6 2 (elt E P 20 k)) (J 22 2).toInt (J 20 2).toInt ∧ BKR (BRF (fun t => HIT2 (SQ o t) (J 112) (J 108) (fun k => I 6 2 (elt E P 20 k)) (J 22 2).toInt) (fun t => CB (tN (SQ o t)) 32) (fun t => (SQ o t).toInt) (2 ^ CB (tN o) 24)) a0.toInt r6.toInt from by (have hE := sq_end hh24 (hsq.symm.trans (ext_i (by omega))) hlt; have hX9 : BKS m5 r6 x25 (BRF (fun t => HIT2 (SQ r1 t) (J 112) (J 108) (fun k => I 6 2 (elt E P 20 k)) (J 22 2).toInt) (fun t => CB (tN (SQ r1 t)) 32) (fun t => (SQ r1 t).toInt) (m7.toInt.toNat + 1)) := bks_e (z := r6) (r' := x25) hbs hZ (by omega) hZ9 (hHA.elim (fun q => q.2) (fun q => absurd q.1 (by omega))) (by omega); rw [hE] at hX9; have k1 := kp1; have k9 := kn9; exact ⟨_, hOP, bks_r hX9 (fun q => by first | rfl | omega) (fun q => ⟨fun y => by omega, fun y => by omega, fun y => by omega⟩)⟩)) dX3_explain_138
                  · have c31 : m5.toInt = (-9) := teq rfl kn9 c31
                    refine lv_bipush (v := (-9)) hx hb dX3_explain_115 (by decide) ?_
                    subst hQ9
                    exact end_i C hr hlocks () hW (show ∃ o : Int32, OPN o (J 112) (J 108) (fun k => I 6 2 (elt E P 20 k)) (J 22 2).toInt (J 20 2).toInt ∧ BKR (BRF (fun t => HIT2 (SQ o t) (J 112) (J 108) (fun k => I 6 2 (elt E P 20 k)) (J 22 2).toInt) (fun t => CB (tN (SQ o t)) 32) (fun t => (SQ o t).toInt) (2 ^ CB (tN o) 24)) a0.toInt (-9) from by (have hE := sq_end hh24 (hsq.symm.trans (ext_i (by omega))) hlt; have hX9 : BKS m5 r6 x25 (BRF (fun t => HIT2 (SQ r1 t) (J 112) (J 108) (fun k => I 6 2 (elt E P 20 k)) (J 22 2).toInt) (fun t => CB (tN (SQ r1 t)) 32) (fun t => (SQ r1 t).toInt) (m7.toInt.toNat + 1)) := bks_e (z := r6) (r' := x25) hbs hZ (by omega) hZ9 (hHA.elim (fun q => q.2) (fun q => absurd q.1 (by omega))) (by omega); rw [hE] at hX9; have k1 := kp1; have k9 := kn9; exact ⟨_, hOP, bks_r hX9 (fun q => by first | rfl | omega) (fun q => ⟨fun y => by omega, fun y => by omega, fun y => by omega⟩)⟩)) dX3_explain_117
              · have c26 : r6.toInt < m3.toInt := tnle rfl rfl c26
                refine lv_iload hx hb dX3_explain_73 (lv_at hl 3 rfl) ?_
                refine lv_goto (tgt := 80) hx hb dX3_explain_75 (by decide) ?_
                refine lv_istore (lv' := [(5, .int m6), (4, .int x25), (8, .int r6), (7, .int m7), (6, .int m6), (3, .int m3), (2, .int r1), (0, .ref (g.2.2.1 4)), (1, .int a0)]) hx hb dX3_explain_80 hl (by decide) rfl (fun ls hl => ?_)
                refine lv_iload hx hb dX3_explain_82 (lv_at hl 2 rfl) ?_
                refine lv_istore_n (lv' := [(3, .int r6), (5, .int m6), (4, .int x25), (8, .int r6), (7, .int m7), (6, .int m6), (2, .int r1), (0, .ref (g.2.2.1 4)), (1, .int a0)]) hx hb dX3_explain_84 rfl hl (by decide) rfl (fun ls hl => ?_)
                refine lv_iload hx hb dX3_explain_85 (lv_at hl 5 rfl) ?_
                refine lv_iload_n hx hb dX3_explain_87 rfl (lv_at hl 6 rfl) ?_
                refine lv_icmp_ne (tgt := 94) hx hb dX3_explain_88 (by decide) (fun c34 => ?_) (fun c34 => ?_)
                · have c34 : ¬ m6.toInt = r1.toInt := tne rfl rfl c34
                  refine lv_iload hx hb dX3_explain_94 (lv_at hl 5 rfl) ?_
                  refine lv_iload_n hx hb dX3_explain_96 rfl (lv_at hl 6 rfl) ?_
                  refine lv_isub hx hb dX3_explain_97 ?_
                  refine lv_topi (fun x35 (e35 : x35 = m6 - r1) => ?_)
                  refine lv_iload_n hx hb dX3_explain_98 rfl (lv_at hl 6 rfl) ?_
                  refine lv_iand hx hb dX3_explain_99 ?_
                  refine lv_topi (fun x36 (e36 : x36 = x35 &&& r1) => ?_)
                  refine lv_istore (lv' := [(6, .int x36), (3, .int r6), (5, .int m6), (4, .int x25), (8, .int r6), (7, .int m7), (2, .int r1), (0, .ref (g.2.2.1 4)), (1, .int a0)]) hx hb dX3_explain_100 hl (by decide) rfl (fun ls hl => ?_)
                  obtain ⟨x37, e37⟩ : ∃ y : Int32, y = m7 + 1 := ⟨_, rfl⟩
                  refine lv_iinc (v := x37) (lv' := [(7, .int x37), (6, .int x36), (3, .int r6), (5, .int m6), (4, .int x25), (8, .int r6), (2, .int r1), (0, .ref (g.2.2.1 4)), (1, .int a0)]) hx hb dX3_explain_102 hl (k := 5) rfl (by rw [e37]; rfl) (by decide) rfl (fun ls hl => ?_)
                  try have t37 : x37.toInt = m7.toInt + 1 := tadd e37 rfl kp1 (by omega)
                  refine lv_goto (tgt := 21) hx hb dX3_explain_105 (by decide) ?_
                  refine ih r6 x25 m6 x36 x37 H locs ls ?_ ?_ ?_ ?_ ?_ hW (lv_sub hl [0, 1, 3, 4, 2, 6, 7, 8] rfl)
                  · show (2048 - x37.toInt).toNat < n
                    omega
                  · show 0 ≤ x37.toInt ∧ x37.toInt ≤ 2048 ∧ 0 ≤ x25.toInt ∧ x25.toInt ≤ x37.toInt
                    (have k1 := kp1; omega)
                  · show x36 = SQ r1 x37.toInt.toNat
                    (have eN : (x37).toInt.toNat = m7.toInt.toNat + 1 := (by omega); rw [eN]; exact sq_1 e35 e36 hsq)
                  · show BKS m6 r6 x25 (BRF (fun t => HIT2 (SQ r1 t) (J 112) (J 108) (fun k => I 6 2 (elt E P 20 k)) (J 22 2).toInt) (fun t => CB (tN (SQ r1 t)) 32) (fun t => (SQ r1 t).toInt) x37.toInt.toNat)
                    (have eN : (x37).toInt.toNat = m7.toInt.toNat + 1 := (by omega); rw [eN]; exact bks_l (z := r6) (s := m6) (r' := x25) hbs hZ (by omega) hZ9 (hHA.elim (fun q => q.2) (fun q => absurd q.1 (by omega))) (by rw [hsq]) (by have h9 := i_of_tN (sq_le hh24 m7.toInt.toNat); rw [← hsq] at h9; omega) (by first | decide | omega))
                  · show x37.toInt.toNat < 2 ^ CB (tN r1) 24
                    (have hM := sq_more hh24 (fun q => by have q9 := congrArg Int32.toInt (hsq.trans q); omega) hlt; omega)
                · have c34 : m6.toInt = r1.toInt := teq rfl rfl c34
                  refine lv_goto (tgt := 108) hx hb dX3_explain_91 (by decide) ?_
                  refine lv_iload hx hb dX3_explain_108 (lv_at hl 1 rfl) ?_
                  refine lv_bipush (v := (-9)) hx hb dX3_explain_110 (by decide) ?_
                  refine lv_icmp_ne (tgt := 118) hx hb dX3_explain_112 (by decide) (fun c38 => ?_) (fun c38 => ?_)
                  · have c38 : ¬ m6.toInt = (-9) := tne rfl kn9 c38
                    refine lv_iload_n hx hb dX3_explain_118 rfl (lv_at hl 8 rfl) ?_
                    refine lv_if_ne (tgt := 126) hx hb dX3_explain_119 (by decide) (fun c39 => ?_) (fun c39 => ?_)
                    · have c39 : ¬ a0.toInt = 0 := tne rfl kp0 c39
                      refine lv_iload_n hx hb dX3_explain_126 rfl (lv_at hl 8 rfl) ?_
                      refine lv_iconst (v := 1) hx hb dX3_explain_127 (by decide) ?_
                      refine lv_icmp_ne (tgt := 136) hx hb dX3_explain_128 (by decide) (fun c40 => ?_) (fun c40 => ?_)
                      · have c40 : ¬ a0.toInt = 1 := tne rfl kp1 c40
                        refine lv_iload hx hb dX3_explain_136 (lv_at hl 1 rfl) ?_
                        subst hQ9
                        exact end_i C hr hlocks () hW (show ∃ o : Int32, OPN o (J 112) (J 108) (fun k => I 6 2 (elt E P 20 k)) (J 22 2).toInt (J 20 2).toInt ∧ BKR (BRF (fun t => HIT2 (SQ o t) (J 112) (J 108) (fun k => I 6 2 (elt E P 20 k)) (J 22 2).toInt) (fun t => CB (tN (SQ o t)) 32) (fun t => (SQ o t).toInt) (2 ^ CB (tN o) 24)) a0.toInt m6.toInt from by (have hE := sq_end hh24 (hsq.symm.trans (ext_i (by omega))) hlt; have hX9 : BKS m6 r6 x25 (BRF (fun t => HIT2 (SQ r1 t) (J 112) (J 108) (fun k => I 6 2 (elt E P 20 k)) (J 22 2).toInt) (fun t => CB (tN (SQ r1 t)) 32) (fun t => (SQ r1 t).toInt) (m7.toInt.toNat + 1)) := bks_l (z := r6) (s := m6) (r' := x25) hbs hZ (by omega) hZ9 (hHA.elim (fun q => q.2) (fun q => absurd q.1 (by omega))) (by rw [hsq]) (by have h9 := i_of_tN (sq_le hh24 m7.toInt.toNat); rw [← hsq] at h9; omega) (by first | decide | omega); rw [hE] at hX9; have k1 := kp1; have k9 := kn9; exact ⟨_, hOP, bks_r hX9 (fun q => by first | rfl | omega) (fun q => ⟨fun y => by omega, fun y => by omega, fun y => by omega⟩)⟩)) dX3_explain_138
                      · have c40 : a0.toInt = 1 := teq rfl kp1 c40
                        refine lv_iload hx hb dX3_explain_131 (lv_at hl 2 rfl) ?_
                        refine lv_goto (tgt := 138) hx hb dX3_explain_133 (by decide) ?_
                        subst hQ9
                        exact end_i C hr hlocks () hW (show ∃ o : Int32, OPN o (J 112) (J 108) (fun k => I 6 2 (elt E P 20 k)) (J 22 2).toInt (J 20 2).toInt ∧ BKR (BRF (fun t => HIT2 (SQ o t) (J 112) (J 108) (fun k => I 6 2 (elt E P 20 k)) (J 22 2).toInt) (fun t => CB (tN (SQ o t)) 32) (fun t => (SQ o t).toInt) (2 ^ CB (tN o) 24)) a0.toInt x25.toInt from by (have hE := sq_end hh24 (hsq.symm.trans (ext_i (by omega))) hlt; have hX9 : BKS m6 r6 x25 (BRF (fun t => HIT2 (SQ r1 t) (J 112) (J 108) (fun k => I 6 2 (elt E P 20 k)) (J 22 2).toInt) (fun t => CB (tN (SQ r1 t)) 32) (fun t => (SQ r1 t).toInt) (m7.toInt.toNat + 1)) := bks_l (z := r6) (s := m6) (r' := x25) hbs hZ (by omega) hZ9 (hHA.elim (fun q => q.2) (fun q => absurd q.1 (by omega))) (by rw [hsq]) (by have h9 := i_of_tN (sq_le hh24 m7.toInt.toNat); rw [← hsq] at h9; omega) (by first | decide | omega); rw [hE] at hX9; have k1 := kp1; have k9 := kn9; exact ⟨_, hOP, bks_r hX9 (fun q => by first | rfl | omega) (fun q => ⟨fun y => by omega, fun y => by omega, fun y => by omega⟩)⟩)) dX3_explain_138
                    · have c39 : a0.toInt = 0 := teq rfl kp0 c39
                      refine lv_iload_n hx hb dX3_explain_122 rfl (lv_at hl 0 rfl) ?_
                      refine lv_goto (tgt := 138) hx hb dX3_explain_123 (by decide) ?_
                      subst hQ9
                      exact end_i C hr hlocks () hW (show ∃ o : Int32, OPN o (J 112) (J 108) (fun k => I 6 2 (elt E P 20 k)) (J 22 2).toInt (J 20 2).toInt ∧ BKR (BRF (fun t => HIT2 (SQ o t) (J 112) (J 108) (fun k => I 6 2 (elt E P 20 k)) (J 22 2).toInt) (fun t => CB (tN (SQ o t)) 32) (fun t => (SQ o t).toInt) (2 ^ CB (tN o) 24)) a0.toInt r6.toInt from by (have hE := sq_end hh24 (hsq.symm.trans (ext_i (by omega))) hlt; have hX9 : BKS m6 r6 x25 (BRF (fun t => HIT2 (SQ r1 t) (J 112) (J 108) (fun k => I 6 2 (elt E P 20 k)) (J 22 2).toInt) (fun t => CB (tN (SQ r1 t)) 32) (fun t => (SQ r1 t).toInt) (m7.toInt.toNat + 1)) := bks_l (z := r6) (s := m6) (r' := x25) hbs hZ (by omega) hZ9 (hHA.elim (fun q => q.2) (fun q => absurd q.1 (by omega))) (by rw [hsq]) (by have h9 := i_of_tN (sq_le hh24 m7.toInt.toNat); rw [← hsq] at h9; omega) (by first | decide | omega); rw [hE] at hX9; have k1 := kp1; have k9 := kn9; exact ⟨_, hOP, bks_r hX9 (fun q => by first | rfl | omega) (fun q => ⟨fun y => by omega, fun y => by omega, fun y => by omega⟩)⟩)) dX3_explain_138
                  · have c38 : m6.toInt = (-9) := teq rfl kn9 c38
                    refine lv_bipush (v := (-9)) hx hb dX3_explain_115 (by decide) ?_
                    subst hQ9
                    exact end_i C hr hlocks () hW (show ∃ o : Int32, OPN o (J 112) (J 108) (fun k => I 6 2 (elt E P 20 k)) (J 22 2).toInt (J 20 2).toInt ∧ BKR (BRF (fun t => HIT2 (SQ o t) (J 112) (J 108) (fun k => I 6 2 (elt E P 20 k)) (J 22 2).toInt) (fun t => CB (tN (SQ o t)) 32) (fun t => (SQ o t).toInt) (2 ^ CB (tN o) 24)) a0.toInt (-9) from by (have hE := sq_end hh24 (hsq.symm.trans (ext_i (by omega))) hlt; have hX9 : BKS m6 r6 x25 (BRF (fun t => HIT2 (SQ r1 t) (J 112) (J 108) (fun k => I 6 2 (elt E P 20 k)) (J 22 2).toInt) (fun t => CB (tN (SQ r1 t)) 32) (fun t => (SQ r1 t).toInt) (m7.toInt.toNat + 1)) := bks_l (z := r6) (s := m6) (r' := x25) hbs hZ (by omega) hZ9 (hHA.elim (fun q => q.2) (fun q => absurd q.1 (by omega))) (by rw [hsq]) (by have h9 := i_of_tN (sq_le hh24 m7.toInt.toNat); rw [← hsq] at h9; omega) (by first | decide | omega); rw [hE] at hX9; have k1 := kp1; have k9 := kn9; exact ⟨_, hOP, bks_r hX9 (fun q => by first | rfl | omega) (fun q => ⟨fun y => by omega, fun y => by omega, fun y => by omega⟩)⟩)) dX3_explain_117
            · have c24 : r6.toInt < m3.toInt := tnle rfl rfl c24
              refine lv_iconst (v := 1) hx hb dX3_explain_57 (by decide) ?_
              refine lv_goto (tgt := 65) hx hb dX3_explain_58 (by decide) ?_
              refine lv_istore (lv' := [(4, .int 1), (8, .int r6), (7, .int m7), (6, .int m6), (5, .int m5), (3, .int m3), (2, .int r1), (0, .ref (g.2.2.1 4)), (1, .int a0)]) hx hb dX3_explain_65 hl (by decide) rfl (fun ls hl => ?_)
              refine lv_iload hx hb dX3_explain_67 (lv_at hl 1 rfl) ?_
              refine lv_iload_n hx hb dX3_explain_69 rfl (lv_at hl 5 rfl) ?_
              refine lv_icmp_ge (tgt := 78) hx hb dX3_explain_70 (by decide) (fun c41 => ?_) (fun c41 => ?_)
              · have c41 : m3.toInt ≤ r6.toInt := tle rfl rfl c41
                refine lv_iload hx hb dX3_explain_78 (lv_at hl 4 rfl) ?_
                refine lv_istore (lv' := [(5, .int m5), (4, .int 1), (8, .int r6), (7, .int m7), (6, .int m6), (3, .int m3), (2, .int r1), (0, .ref (g.2.2.1 4)), (1, .int a0)]) hx hb dX3_explain_80 hl (by decide) rfl (fun ls hl => ?_)
                refine lv_iload hx hb dX3_explain_82 (lv_at hl 2 rfl) ?_
                refine lv_istore_n (lv' := [(3, .int r6), (5, .int m5), (4, .int 1), (8, .int r6), (7, .int m7), (6, .int m6), (2, .int r1), (0, .ref (g.2.2.1 4)), (1, .int a0)]) hx hb dX3_explain_84 rfl hl (by decide) rfl (fun ls hl => ?_)
                refine lv_iload hx hb dX3_explain_85 (lv_at hl 5 rfl) ?_
                refine lv_iload_n hx hb dX3_explain_87 rfl (lv_at hl 6 rfl) ?_
                refine lv_icmp_ne (tgt := 94) hx hb dX3_explain_88 (by decide) (fun c42 => ?_) (fun c42 => ?_)
                · have c42 : ¬ m6.toInt = r1.toInt := tne rfl rfl c42
                  refine lv_iload hx hb dX3_explain_94 (lv_at hl 5 rfl) ?_
                  refine lv_iload_n hx hb dX3_explain_96 rfl (lv_at hl 6 rfl) ?_
                  refine lv_isub hx hb dX3_explain_97 ?_
                  refine lv_topi (fun x43 (e43 : x43 = m6 - r1) => ?_)
                  refine lv_iload_n hx hb dX3_explain_98 rfl (lv_at hl 6 rfl) ?_
                  refine lv_iand hx hb dX3_explain_99 ?_
                  refine lv_topi (fun x44 (e44 : x44 = x43 &&& r1) => ?_)
                  refine lv_istore (lv' := [(6, .int x44), (3, .int r6), (5, .int m5), (4, .int 1), (8, .int r6), (7, .int m7), (2, .int r1), (0, .ref (g.2.2.1 4)), (1, .int a0)]) hx hb dX3_explain_100 hl (by decide) rfl (fun ls hl => ?_)
                  obtain ⟨x45, e45⟩ : ∃ y : Int32, y = m7 + 1 := ⟨_, rfl⟩
                  refine lv_iinc (v := x45) (lv' := [(7, .int x45), (6, .int x44), (3, .int r6), (5, .int m5), (4, .int 1), (8, .int r6), (2, .int r1), (0, .ref (g.2.2.1 4)), (1, .int a0)]) hx hb dX3_explain_102 hl (k := 5) rfl (by rw [e45]; rfl) (by decide) rfl (fun ls hl => ?_)
                  try have t45 : x45.toInt = m7.toInt + 1 := tadd e45 rfl kp1 (by omega)
                  refine lv_goto (tgt := 21) hx hb dX3_explain_105 (by decide) ?_
                  refine ih r6 1 m5 x44 x45 H locs ls ?_ ?_ ?_ ?_ ?_ hW (lv_sub hl [0, 1, 3, 4, 2, 6, 7, 8] rfl)
                  · show (2048 - x45.toInt).toNat < n
                    omega
                  · show 0 ≤ x45.toInt ∧ x45.toInt ≤ 2048 ∧ 0 ≤ (1 : Int32).toInt ∧ (1 : Int32).toInt ≤ x45.toInt
                    (have k1 := kp1; omega)
                  · show x44 = SQ r1 x45.toInt.toNat
                    (have eN : (x45).toInt.toNat = m7.toInt.toNat + 1 := (by omega); rw [eN]; exact sq_1 e43 e44 hsq)
                  · show BKS m5 r6 (1 : Int32) (BRF (fun t => HIT2 (SQ r1 t) (J 112) (J 108) (fun k => I 6 2 (elt E P 20 k)) (J 22 2).toInt) (fun t => CB (tN (SQ r1 t)) 32) (fun t => (SQ r1 t).toInt) x45.toInt.toNat)
                    (have eN : (x45).toInt.toNat = m7.toInt.toNat + 1 := (by omega); rw [eN]; exact bks_e (z := r6) (r' := (1 : Int32)) hbs hZ (by omega) hZ9 (hHA.elim (fun q => q.2) (fun q => absurd q.1 (by omega))) (by omega))
                  · show x45.toInt.toNat < 2 ^ CB (tN r1) 24
                    (have hM := sq_more hh24 (fun q => by have q9 := congrArg Int32.toInt (hsq.trans q); omega) hlt; omega)
                · have c42 : m6.toInt = r1.toInt := teq rfl rfl c42
                  refine lv_goto (tgt := 108) hx hb dX3_explain_91 (by decide) ?_
                  refine lv_iload hx hb dX3_explain_108 (lv_at hl 1 rfl) ?_
                  refine lv_bipush (v := (-9)) hx hb dX3_explain_110 (by decide) ?_
                  refine lv_icmp_ne (tgt := 118) hx hb dX3_explain_112 (by decide) (fun c46 => ?_) (fun c46 => ?_)
                  · have c46 : ¬ m5.toInt = (-9) := tne rfl kn9 c46
                    refine lv_iload_n hx hb dX3_explain_118 rfl (lv_at hl 8 rfl) ?_
                    refine lv_if_ne (tgt := 126) hx hb dX3_explain_119 (by decide) (fun c47 => ?_) (fun c47 => ?_)
                    · have c47 : ¬ a0.toInt = 0 := tne rfl kp0 c47
                      refine lv_iload_n hx hb dX3_explain_126 rfl (lv_at hl 8 rfl) ?_
                      refine lv_iconst (v := 1) hx hb dX3_explain_127 (by decide) ?_
                      refine lv_icmp_ne (tgt := 136) hx hb dX3_explain_128 (by decide) (fun c48 => ?_) (fun c48 => ?_)
                      · have c48 : ¬ a0.toInt = 1 := tne rfl kp1 c48
                        refine lv_iload hx hb dX3_explain_136 (lv_at hl 1 rfl) ?_
                        subst hQ9
                        exact end_i C hr hlocks () hW (show ∃ o : Int32, OPN o (J 112) (J 108) (fun k => I 6 2 (elt E P 20 k)) (J 22 2).toInt (J 20 2).toInt ∧ BKR (BRF (fun t => HIT2 (SQ o t) (J 112) (J 108) (fun k => I 6 2 (elt E P 20 k)) (J 22 2).toInt) (fun t => CB (tN (SQ o t)) 32) (fun t => (SQ o t).toInt) (2 ^ CB (tN o) 24)) a0.toInt m5.toInt from by (have hE := sq_end hh24 (hsq.symm.trans (ext_i (by omega))) hlt; have hX9 : BKS m5 r6 (1 : Int32) (BRF (fun t => HIT2 (SQ r1 t) (J 112) (J 108) (fun k => I 6 2 (elt E P 20 k)) (J 22 2).toInt) (fun t => CB (tN (SQ r1 t)) 32) (fun t => (SQ r1 t).toInt) (m7.toInt.toNat + 1)) := bks_e (z := r6) (r' := (1 : Int32)) hbs hZ (by omega) hZ9 (hHA.elim (fun q => q.2) (fun q => absurd q.1 (by omega))) (by omega); rw [hE] at hX9; have k1 := kp1; have k9 := kn9; exact ⟨_, hOP, bks_r hX9 (fun q => by first | rfl | omega) (fun q => ⟨fun y => by omega, fun y => by omega, fun y => by omega⟩)⟩)) dX3_explain_138
                      · have c48 : a0.toInt = 1 := teq rfl kp1 c48
                        refine lv_iload hx hb dX3_explain_131 (lv_at hl 2 rfl) ?_
                        refine lv_goto (tgt := 138) hx hb dX3_explain_133 (by decide) ?_
                        subst hQ9
                        exact end_i C hr hlocks () hW (show ∃ o : Int32, OPN o (J 112) (J 108) (fun k => I 6 2 (elt E P 20 k)) (J 22 2).toInt (J 20 2).toInt ∧ BKR (BRF (fun t => HIT2 (SQ o t) (J 112) (J 108) (fun k => I 6 2 (elt E P 20 k)) (J 22 2).toInt) (fun t => CB (tN (SQ o t)) 32) (fun t => (SQ o t).toInt) (2 ^ CB (tN o) 24)) a0.toInt 1 from by (have hE := sq_end hh24 (hsq.symm.trans (ext_i (by omega))) hlt; have hX9 : BKS m5 r6 (1 : Int32) (BRF (fun t => HIT2 (SQ r1 t) (J 112) (J 108) (fun k => I 6 2 (elt E P 20 k)) (J 22 2).toInt) (fun t => CB (tN (SQ r1 t)) 32) (fun t => (SQ r1 t).toInt) (m7.toInt.toNat + 1)) := bks_e (z := r6) (r' := (1 : Int32)) hbs hZ (by omega) hZ9 (hHA.elim (fun q => q.2) (fun q => absurd q.1 (by omega))) (by omega); rw [hE] at hX9; have k1 := kp1; have k9 := kn9; exact ⟨_, hOP, bks_r hX9 (fun q => by first | rfl | omega) (fun q => ⟨fun y => by omega, fun y => by omega, fun y => by omega⟩)⟩)) dX3_explain_138
                    · have c47 : a0.toInt = 0 := teq rfl kp0 c47
                      refine lv_iload_n hx hb dX3_explain_122 rfl (lv_at hl 0 rfl) ?_
                      refine lv_goto (tgt := 138) hx hb dX3_explain_123 (by decide) ?_
                      subst hQ9
                      exact end_i C hr hlocks () hW (show ∃ o : Int32, OPN o (J 112) (J 108) (fun k => I 6 2 (elt E P 20 k)) (J 22 2).toInt (J 20 2).toInt ∧ BKR (BRF (fun t => HIT2 (SQ o t) (J 112) (J 108) (fun k => I 6 2 (elt E P 20 k)) (J 22 2).toInt) (fun t => CB (tN (SQ o t)) 32) (fun t => (SQ o t).toInt) (2 ^ CB (tN o) 24)) a0.toInt r6.toInt from by (have hE := sq_end hh24 (hsq.symm.trans (ext_i (by omega))) hlt; have hX9 : BKS m5 r6 (1 : Int32) (BRF (fun t => HIT2 (SQ r1 t) (J 112) (J 108) (fun k => I 6 2 (elt E P 20 k)) (J 22 2).toInt) (fun t => CB (tN (SQ r1 t)) 32) (fun t => (SQ r1 t).toInt) (m7.toInt.toNat + 1)) := bks_e (z := r6) (r' := (1 : Int32)) hbs hZ (by omega) hZ9 (hHA.elim (fun q => q.2) (fun q => absurd q.1 (by omega))) (by omega); rw [hE] at hX9; have k1 := kp1; have k9 := kn9; exact ⟨_, hOP, bks_r hX9 (fun q => by first | rfl | omega) (fun q => ⟨fun y => by omega, fun y => by omega, fun y => by omega⟩)⟩)) dX3_explain_138
                  · have c46 : m5.toInt = (-9) := teq rfl kn9 c46
                    refine lv_bipush (v := (-9)) hx hb dX3_explain_115 (by decide) ?_
                    subst hQ9
                    exact end_i C hr hlocks () hW (show ∃ o : Int32, OPN o (J 112) (J 108) (fun k => I 6 2 (elt E P 20 k)) (J 22 2).toInt (J 20 2).toInt ∧ BKR (BRF (fun t => HIT2 (SQ o t) (J 112) (J 108) (fun k => I 6 2 (elt E P 20 k)) (J 22 2).toInt) (fun t => CB (tN (SQ o t)) 32) (fun t => (SQ o t).toInt) (2 ^ CB (tN o) 24)) a0.toInt (-9) from by (have hE := sq_end hh24 (hsq.symm.trans (ext_i (by omega))) hlt; have hX9 : BKS m5 r6 (1 : Int32) (BRF (fun t => HIT2 (SQ r1 t) (J 112) (J 108) (fun k => I 6 2 (elt E P 20 k)) (J 22 2).toInt) (fun t => CB (tN (SQ r1 t)) 32) (fun t => (SQ r1 t).toInt) (m7.toInt.toNat + 1)) := bks_e (z := r6) (r' := (1 : Int32)) hbs hZ (by omega) hZ9 (hHA.elim (fun q => q.2) (fun q => absurd q.1 (by omega))) (by omega); rw [hE] at hX9; have k1 := kp1; have k9 := kn9; exact ⟨_, hOP, bks_r hX9 (fun q => by first | rfl | omega) (fun q => ⟨fun y => by omega, fun y => by omega, fun y => by omega⟩)⟩)) dX3_explain_117
              · have c41 : r6.toInt < m3.toInt := tnle rfl rfl c41
                refine lv_iload hx hb dX3_explain_73 (lv_at hl 3 rfl) ?_
                refine lv_goto (tgt := 80) hx hb dX3_explain_75 (by decide) ?_
                refine lv_istore (lv' := [(5, .int m6), (4, .int 1), (8, .int r6), (7, .int m7), (6, .int m6), (3, .int m3), (2, .int r1), (0, .ref (g.2.2.1 4)), (1, .int a0)]) hx hb dX3_explain_80 hl (by decide) rfl (fun ls hl => ?_)
                refine lv_iload hx hb dX3_explain_82 (lv_at hl 2 rfl) ?_
                refine lv_istore_n (lv' := [(3, .int r6), (5, .int m6), (4, .int 1), (8, .int r6), (7, .int m7), (6, .int m6), (2, .int r1), (0, .ref (g.2.2.1 4)), (1, .int a0)]) hx hb dX3_explain_84 rfl hl (by decide) rfl (fun ls hl => ?_)
                refine lv_iload hx hb dX3_explain_85 (lv_at hl 5 rfl) ?_
                refine lv_iload_n hx hb dX3_explain_87 rfl (lv_at hl 6 rfl) ?_
                refine lv_icmp_ne (tgt := 94) hx hb dX3_explain_88 (by decide) (fun c49 => ?_) (fun c49 => ?_)
                · have c49 : ¬ m6.toInt = r1.toInt := tne rfl rfl c49
                  refine lv_iload hx hb dX3_explain_94 (lv_at hl 5 rfl) ?_
                  refine lv_iload_n hx hb dX3_explain_96 rfl (lv_at hl 6 rfl) ?_
                  refine lv_isub hx hb dX3_explain_97 ?_
                  refine lv_topi (fun x50 (e50 : x50 = m6 - r1) => ?_)
                  refine lv_iload_n hx hb dX3_explain_98 rfl (lv_at hl 6 rfl) ?_
                  refine lv_iand hx hb dX3_explain_99 ?_
                  refine lv_topi (fun x51 (e51 : x51 = x50 &&& r1) => ?_)
                  refine lv_istore (lv' := [(6, .int x51), (3, .int r6), (5, .int m6), (4, .int 1), (8, .int r6), (7, .int m7), (2, .int r1), (0, .ref (g.2.2.1 4)), (1, .int a0)]) hx hb dX3_explain_100 hl (by decide) rfl (fun ls hl => ?_)
                  obtain ⟨x52, e52⟩ : ∃ y : Int32, y = m7 + 1 := ⟨_, rfl⟩
                  refine lv_iinc (v := x52) (lv' := [(7, .int x52), (6, .int x51), (3, .int r6), (5, .int m6), (4, .int 1), (8, .int r6), (2, .int r1), (0, .ref (g.2.2.1 4)), (1, .int a0)]) hx hb dX3_explain_102 hl (k := 5) rfl (by rw [e52]; rfl) (by decide) rfl (fun ls hl => ?_)
                  try have t52 : x52.toInt = m7.toInt + 1 := tadd e52 rfl kp1 (by omega)
                  refine lv_goto (tgt := 21) hx hb dX3_explain_105 (by decide) ?_
                  refine ih r6 1 m6 x51 x52 H locs ls ?_ ?_ ?_ ?_ ?_ hW (lv_sub hl [0, 1, 3, 4, 2, 6, 7, 8] rfl)
                  · show (2048 - x52.toInt).toNat < n
                    omega
                  · show 0 ≤ x52.toInt ∧ x52.toInt ≤ 2048 ∧ 0 ≤ (1 : Int32).toInt ∧ (1 : Int32).toInt ≤ x52.toInt
                    (have k1 := kp1; omega)
                  · show x51 = SQ r1 x52.toInt.toNat
                    (have eN : (x52).toInt.toNat = m7.toInt.toNat + 1 := (by omega); rw [eN]; exact sq_1 e50 e51 hsq)
                  · show BKS m6 r6 (1 : Int32) (BRF (fun t => HIT2 (SQ r1 t) (J 112) (J 108) (fun k => I 6 2 (elt E P 20 k)) (J 22 2).toInt) (fun t => CB (tN (SQ r1 t)) 32) (fun t => (SQ r1 t).toInt) x52.toInt.toNat)
                    (have eN : (x52).toInt.toNat = m7.toInt.toNat + 1 := (by omega); rw [eN]; exact bks_l (z := r6) (s := m6) (r' := (1 : Int32)) hbs hZ (by omega) hZ9 (hHA.elim (fun q => q.2) (fun q => absurd q.1 (by omega))) (by rw [hsq]) (by have h9 := i_of_tN (sq_le hh24 m7.toInt.toNat); rw [← hsq] at h9; omega) (by first | decide | omega))
                  · show x52.toInt.toNat < 2 ^ CB (tN r1) 24
                    (have hM := sq_more hh24 (fun q => by have q9 := congrArg Int32.toInt (hsq.trans q); omega) hlt; omega)
                · have c49 : m6.toInt = r1.toInt := teq rfl rfl c49
                  refine lv_goto (tgt := 108) hx hb dX3_explain_91 (by decide) ?_
                  refine lv_iload hx hb dX3_explain_108 (lv_at hl 1 rfl) ?_
                  refine lv_bipush (v := (-9)) hx hb dX3_explain_110 (by decide) ?_
                  refine lv_icmp_ne (tgt := 118) hx hb dX3_explain_112 (by decide) (fun c53 => ?_) (fun c53 => ?_)
                  · have c53 : ¬ m6.toInt = (-9) := tne rfl kn9 c53
                    refine lv_iload_n hx hb dX3_explain_118 rfl (lv_at hl 8 rfl) ?_
                    refine lv_if_ne (tgt := 126) hx hb dX3_explain_119 (by decide) (fun c54 => ?_) (fun c54 => ?_)
                    · have c54 : ¬ a0.toInt = 0 := tne rfl kp0 c54
                      refine lv_iload_n hx hb dX3_explain_126 rfl (lv_at hl 8 rfl) ?_
                      refine lv_iconst (v := 1) hx hb dX3_explain_127 (by decide) ?_
                      refine lv_icmp_ne (tgt := 136) hx hb dX3_explain_128 (by decide) (fun c55 => ?_) (fun c55 => ?_)
                      · have c55 : ¬ a0.toInt = 1 := tne rfl kp1 c55
                        refine lv_iload hx hb dX3_explain_136 (lv_at hl 1 rfl) ?_
                        subst hQ9
                        exact end_i C hr hlocks () hW (show ∃ o : Int32, OPN o (J 112) (J 108) (fun k => I 6 2 (elt E P 20 k)) (J 22 2).toInt (J 20 2).toInt ∧ BKR (BRF (fun t => HIT2 (SQ o t) (J 112) (J 108) (fun k => I 6 2 (elt E P 20 k)) (J 22 2).toInt) (fun t => CB (tN (SQ o t)) 32) (fun t => (SQ o t).toInt) (2 ^ CB (tN o) 24)) a0.toInt m6.toInt from by (have hE := sq_end hh24 (hsq.symm.trans (ext_i (by omega))) hlt; have hX9 : BKS m6 r6 (1 : Int32) (BRF (fun t => HIT2 (SQ r1 t) (J 112) (J 108) (fun k => I 6 2 (elt E P 20 k)) (J 22 2).toInt) (fun t => CB (tN (SQ r1 t)) 32) (fun t => (SQ r1 t).toInt) (m7.toInt.toNat + 1)) := bks_l (z := r6) (s := m6) (r' := (1 : Int32)) hbs hZ (by omega) hZ9 (hHA.elim (fun q => q.2) (fun q => absurd q.1 (by omega))) (by rw [hsq]) (by have h9 := i_of_tN (sq_le hh24 m7.toInt.toNat); rw [← hsq] at h9; omega) (by first | decide | omega); rw [hE] at hX9; have k1 := kp1; have k9 := kn9; exact ⟨_, hOP, bks_r hX9 (fun q => by first | rfl | omega) (fun q => ⟨fun y => by omega, fun y => by omega, fun y => by omega⟩)⟩)) dX3_explain_138
                      · have c55 : a0.toInt = 1 := teq rfl kp1 c55
                        refine lv_iload hx hb dX3_explain_131 (lv_at hl 2 rfl) ?_
                        refine lv_goto (tgt := 138) hx hb dX3_explain_133 (by decide) ?_
                        subst hQ9
                        exact end_i C hr hlocks () hW (show ∃ o : Int32, OPN o (J 112) (J 108) (fun k => I 6 2 (elt E P 20 k)) (J 22 2).toInt (J 20 2).toInt ∧ BKR (BRF (fun t => HIT2 (SQ o t) (J 112) (J 108) (fun k => I 6 2 (elt E P 20 k)) (J 22 2).toInt) (fun t => CB (tN (SQ o t)) 32) (fun t => (SQ o t).toInt) (2 ^ CB (tN o) 24)) a0.toInt 1 from by (have hE := sq_end hh24 (hsq.symm.trans (ext_i (by omega))) hlt; have hX9 : BKS m6 r6 (1 : Int32) (BRF (fun t => HIT2 (SQ r1 t) (J 112) (J 108) (fun k => I 6 2 (elt E P 20 k)) (J 22 2).toInt) (fun t => CB (tN (SQ r1 t)) 32) (fun t => (SQ r1 t).toInt) (m7.toInt.toNat + 1)) := bks_l (z := r6) (s := m6) (r' := (1 : Int32)) hbs hZ (by omega) hZ9 (hHA.elim (fun q => q.2) (fun q => absurd q.1 (by omega))) (by rw [hsq]) (by have h9 := i_of_tN (sq_le hh24 m7.toInt.toNat); rw [← hsq] at h9; omega) (by first | decide | omega); rw [hE] at hX9; have k1 := kp1; have k9 := kn9; exact ⟨_, hOP, bks_r hX9 (fun q => by first | rfl | omega) (fun q => ⟨fun y => by omega, fun y => by omega, fun y => by omega⟩)⟩)) dX3_explain_138
                    · have c54 : a0.toInt = 0 := teq rfl kp0 c54
                      refine lv_iload_n hx hb dX3_explain_122 rfl (lv_at hl 0 rfl) ?_
                      refine lv_goto (tgt := 138) hx hb dX3_explain_123 (by decide) ?_
                      subst hQ9
                      exact end_i C hr hlocks () hW (show ∃ o : Int32, OPN o (J 112) (J 108) (fun k => I 6 2 (elt E P 20 k)) (J 22 2).toInt (J 20 2).toInt ∧ BKR (BRF (fun t => HIT2 (SQ o t) (J 112) (J 108) (fun k => I 6 2 (elt E P 20 k)) (J 22 2).toInt) (fun t => CB (tN (SQ o t)) 32) (fun t => (SQ o t).toInt) (2 ^ CB (tN o) 24)) a0.toInt r6.toInt from by (have hE := sq_end hh24 (hsq.symm.trans (ext_i (by omega))) hlt; have hX9 : BKS m6 r6 (1 : Int32) (BRF (fun t => HIT2 (SQ r1 t) (J 112) (J 108) (fun k => I 6 2 (elt E P 20 k)) (J 22 2).toInt) (fun t => CB (tN (SQ r1 t)) 32) (fun t => (SQ r1 t).toInt) (m7.toInt.toNat + 1)) := bks_l (z := r6) (s := m6) (r' := (1 : Int32)) hbs hZ (by omega) hZ9 (hHA.elim (fun q => q.2) (fun q => absurd q.1 (by omega))) (by rw [hsq]) (by have h9 := i_of_tN (sq_le hh24 m7.toInt.toNat); rw [← hsq] at h9; omega) (by first | decide | omega); rw [hE] at hX9; have k1 := kp1; have k9 := kn9; exact ⟨_, hOP, bks_r hX9 (fun q => by first | rfl | omega) (fun q => ⟨fun y => by omega, fun y => by omega, fun y => by omega⟩)⟩)) dX3_explain_138
                  · have c53 : m6.toInt = (-9) := teq rfl kn9 c53
                    refine lv_bipush (v := (-9)) hx hb dX3_explain_115 (by decide) ?_
                    subst hQ9
                    exact end_i C hr hlocks () hW (show ∃ o : Int32, OPN o (J 112) (J 108) (fun k => I 6 2 (elt E P 20 k)) (J 22 2).toInt (J 20 2).toInt ∧ BKR (BRF (fun t => HIT2 (SQ o t) (J 112) (J 108) (fun k => I 6 2 (elt E P 20 k)) (J 22 2).toInt) (fun t => CB (tN (SQ o t)) 32) (fun t => (SQ o t).toInt) (2 ^ CB (tN o) 24)) a0.toInt (-9) from by (have hE := sq_end hh24 (hsq.symm.trans (ext_i (by omega))) hlt; have hX9 : BKS m6 r6 (1 : Int32) (BRF (fun t => HIT2 (SQ r1 t) (J 112) (J 108) (fun k => I 6 2 (elt E P 20 k)) (J 22 2).toInt) (fun t => CB (tN (SQ r1 t)) 32) (fun t => (SQ r1 t).toInt) (m7.toInt.toNat + 1)) := bks_l (z := r6) (s := m6) (r' := (1 : Int32)) hbs hZ (by omega) hZ9 (hHA.elim (fun q => q.2) (fun q => absurd q.1 (by omega))) (by rw [hsq]) (by have h9 := i_of_tN (sq_le hh24 m7.toInt.toNat); rw [← hsq] at h9; omega) (by first | decide | omega); rw [hE] at hX9; have k1 := kp1; have k9 := kn9; exact ⟨_, hOP, bks_r hX9 (fun q => by first | rfl | omega) (fun q => ⟨fun y => by omega, fun y => by omega, fun y => by omega⟩)⟩)) dX3_explain_117
  -- into the loop
  refine loop21 ((2048 - (0 : Int32).toInt).toNat + 1) 20 0 (-9) 0 0 H locs ls ?_ ?_ ?_ ?_ ?_ hW (lv_sub hl [0, 1, 2, 3, 4, 5, 6, 7] rfl)
  · exact Nat.lt_succ_self _
  · show 0 ≤ (0 : Int32).toInt ∧ (0 : Int32).toInt ≤ 2048 ∧ 0 ≤ (0 : Int32).toInt ∧ (0 : Int32).toInt ≤ (0 : Int32).toInt
    try rw [kp20]
    try rw [kp0]
    try rw [kn9]
    try rw [kp0]
    try rw [kp0]
    first | omega | exact hi | assumption
  · show (0 : Int32) = SQ r1 (0 : Int32).toInt.toNat
    try rw [kp20]
    try rw [kp0]
    try rw [kn9]
    try rw [kp0]
    try rw [kp0]
    rfl
  · show BKS ((-9) : Int32) (20 : Int32) (0 : Int32) (BRF (fun t => HIT2 (SQ r1 t) (J 112) (J 108) (fun k => I 6 2 (elt E P 20 k)) (J 22 2).toInt) (fun t => CB (tN (SQ r1 t)) 32) (fun t => (SQ r1 t).toInt) (0 : Int32).toInt.toNat)
    try rw [kp20]
    try rw [kp0]
    try rw [kn9]
    try rw [kp0]
    try rw [kp0]
    exact Or.inl ⟨by decide, by decide, rfl⟩
  · show (0 : Int32).toInt.toNat < 2 ^ CB (tN r1) 24
    try rw [kp20]
    try rw [kp0]
    try rw [kn9]
    try rw [kp0]
    try rw [kp0]
    exact Nat.pow_pos (by decide)

set_option maxHeartbeats 4000000 in
set_option maxRecDepth 100000 in
theorem c_X11_breaks_q (l : Launch) (g : gG) (J : Nat → Nat → Int32) (L : Nat → Nat → Int64) (I : Nat → Nat → Nat → Int32) (P : Nat → Nat → Nat → Option Nat) (E : Nat → Option Nat) (N : Nat → Nat) (dy : List (Nat × Nat)) (sz : Nat) (a0 : Int32) (hwf : WXF g J P E N dy) (hhm : HMR (P 2 0) (I 2 1) (I 2 2) (I 2 3) (elt E P 22) (elt E P 20) (J 108) (J 109) (J 110) (J 111) (J 22 2).toInt (J 20 2).toInt) (hcm : FLD I E P (J 112) 22 2 4 (J 22 2).toInt) (hn1 : 1 ≤ (J 20 2).toInt) : Met l yX11_breaks (WS yX11_breaks cX11_breaks 2 (some .int)) (RM (7) 0 0) (PC g [.ref (g.2.2.1 12), .int a0] ((J, L, I, P, E, N), sgX g ++ dy) sz) (va_Qi (fun (r : Int32) (u : (Nat → Nat → Int32)) => ((r.toInt = (-2) ∧ (¬ (0 ≤ a0.toInt ∧ a0.toInt ≤ 2))) ∨ (r = r ∧ (0 ≤ a0.toInt ∧ a0.toInt ≤ 2) ∧ (∃ o : Int32, OPN o (J 112) (J 108) (fun k => I 6 2 (elt E P 20 k)) (J 22 2).toInt (J 20 2).toInt ∧ BKR (BRF (fun t => HIT2 (SQ o t) (J 112) (J 108) (fun k => I 6 2 (elt E P 20 k)) (J 22 2).toInt) (fun t => CB (tN (SQ o t)) 32) (fun t => (SQ o t).toInt) (2 ^ CB (tN o) 24)) a0.toInt r.toInt)))) (fun u t => at_ g (FR g ((J, L, I, P, E, N), sgX g ++ dy) sz) (((hv J [42] [] u), L, I, P, E, N), sgX g ++ dy) t) (FR g ((J, L, I, P, E, N), sgX g ++ dy) sz)) 0 0 (FR g ((J, L, I, P, E, N), sgX g ++ dy) sz) := by
  refine ent (by decide +kernel) (Nat.le_of_ble_eq_true rfl) ?_
  intro p e s m below meth c ls hsz C hW hr hlocks hname hl
  generalize FR g ((J, L, I, P, E, N), sgX g ++ dy) sz = A at C hW ⊢
  generalize hQ9 : (va_Qi (fun (r : Int32) (u : (Nat → Nat → Int32)) => ((r.toInt = (-2) ∧ (¬ (0 ≤ a0.toInt ∧ a0.toInt ≤ 2))) ∨ (r = r ∧ (0 ≤ a0.toInt ∧ a0.toInt ≤ 2) ∧ (∃ o : Int32, OPN o (J 112) (J 108) (fun k => I 6 2 (elt E P 20 k)) (J 22 2).toInt (J 20 2).toInt ∧ BKR (BRF (fun t => HIT2 (SQ o t) (J 112) (J 108) (fun k => I 6 2 (elt E P 20 k)) (J 22 2).toInt) (fun t => CB (tN (SQ o t)) 32) (fun t => (SQ o t).toInt) (2 ^ CB (tN o) 24)) a0.toInt r.toInt)))) (fun u t => at_ g A (((hv J [42] [] u), L, I, P, E, N), sgX g ++ dy) t) A) = Q9
  have hx := C.1.1
  have hb := C.1.2.1
  have hts := C.1.2.2.2.2
  have hl : lv_has ls 2 [(0, .ref (g.2.2.1 12)), (1, .int a0)] := hl
  obtain ⟨H, hH⟩ : ∃ H : Heap, H = s.heap := ⟨_, rfl⟩
  obtain ⟨locs, hlocs⟩ : ∃ q : List Loc, q = [] := ⟨_, rfl⟩
  have hW : WB g A s.heap H locs (J, L, I, P, E, N) (sgX g ++ dy) := by rw [hH, hlocs]; exact hW
  refine start_ hH hlocs ?_
  refine lv_iload_n hx hb dX11_breaks_0 rfl (lv_at hl 1 rfl) ?_
  refine lv_if_lt (tgt := 9) hx hb dX11_breaks_1 (by decide) (fun c1 => ?_) (fun c1 => ?_)
  · have c1 : a0.toInt < 0 := tlt rfl kp0 c1
    refine lv_aload_n hx hb dX11_breaks_9 rfl (lv_at hl 0 rfl) ?_
    refine lv_bipush (v := (-2)) hx hb dX11_breaks_10 (by decide) ?_
    refine ci_ C hW (runV (x := (g.2.2.1 12)) (As := [.int (-2)]) (rest := []) (T := ((J, L, I, P, E, N), sgX g ++ dy)) C hW (c_X11_refuse l g J L I P E N dy H.size (-2) hwf) mi_X11_refuse tw_411 (recv_ (T := ((J, L, I, P, E, N), sgX g ++ dy)) C hW (mx_ rfl) rfl rfl) ⟨rfl, rfl, Nat.le_of_ble_eq_true rfl, Nat.le_of_ble_eq_true rfl⟩ rfl hl.1 rfl (Nat.le_of_ble_eq_true rfl) dX11_breaks_12 ⟨Nat.le_of_ble_eq_true rfl, Nat.le_of_ble_eq_true rfl⟩) (fun r2 u2 H locs hp2 hW => ?_)
    have hc2 : ((r2 = (-2))) := hp2
    clear hp2
    have hr2 : r2.toInt = (-2) := by rw [hc2]; exact kn2
    have hW : WB g A s.heap H locs ((hv J [42] [] u2), L, I, P, E, N) (sgX g ++ dy) := hW
    have hWr : WB g A s.heap H locs ((hv J [42] [] (hv J [42] [] u2)), L, I, P, E, N) (sgX g ++ dy) := by
      rw [← ag_hvE (J := J) (R := [42]) (F := []) (ag_hv rfl rfl ag_rf)]
      exact hW
    subst hQ9
    exact end_i C hr hlocks (hv J [42] [] u2) hWr (by first | exact Or.inl ⟨by omega, by omega⟩) dX11_breaks_15
  · have c1 : 0 ≤ a0.toInt := tnlt rfl kp0 c1
    refine lv_iload_n hx hb dX11_breaks_4 rfl (lv_at hl 1 rfl) ?_
    refine lv_iconst (v := 2) hx hb dX11_breaks_5 (by decide) ?_
    refine lv_icmp_le (tgt := 16) hx hb dX11_breaks_6 (by decide) (fun c3 => ?_) (fun c3 => ?_)
    · have c3 : a0.toInt ≤ 2 := tle rfl kp2 c3
      refine lv_aload_n hx hb dX11_breaks_16 rfl (lv_at hl 0 rfl) ?_
      refine rg_12_0 C hW (mx_ rfl) tw_364 dX11_breaks_17 ?_
      refine lv_iload_n hx hb dX11_breaks_20 rfl (lv_at hl 1 rfl) ?_
      refine ci_ C hW (runV (x := (g.2.2.1 4)) (As := [.int a0]) (rest := []) (T := ((J, L, I, P, E, N), sgX g ++ dy)) C hW (c_X3_explain_q l g J L I P E N dy H.size a0 hwf (show HMR (P 2 0) (I 2 1) (I 2 2) (I 2 3) (elt E P 22) (elt E P 20) (J 108) (J 109) (J 110) (J 111) (J 22 2).toInt (J 20 2).toInt from hhm) (show FLD I E P (J 112) 22 2 4 (J 22 2).toInt from hcm) (show 1 ≤ (J 20 2).toInt from hn1) (show 0 ≤ a0.toInt ∧ a0.toInt ≤ 2 from by omega)) mi_X3_explain tw_856 (recv_ (T := ((J, L, I, P, E, N), sgX g ++ dy)) C hW (mx_ rfl) rfl rfl) ⟨rfl, rfl, Nat.le_of_ble_eq_true rfl, Nat.le_of_ble_eq_true rfl⟩ rfl hl.1 rfl (Nat.le_of_ble_eq_true rfl) dX11_breaks_21 ⟨Nat.le_of_ble_eq_true rfl, Nat.le_of_ble_eq_true rfl⟩) (fun r4 u4 H locs hp4 hW => ?_)
      have hf4_0 : (∃ o : Int32, OPN o (J 112) (J 108) (fun k => I 6 2 (elt E P 20 k)) (J 22 2).toInt (J 20 2).toInt ∧ BKR (BRF (fun t => HIT2 (SQ o t) (J 112) (J 108) (fun k => I 6 2 (elt E P 20 k)) (J 22 2).toInt) (fun t => CB (tN (SQ o t)) 32) (fun t => (SQ o t).toInt) (2 ^ CB (tN o) 24)) a0.toInt r4.toInt) := hp4
      clear hp4
      have hW : WB g A s.heap H locs (J, L, I, P, E, N) (sgX g ++ dy) := hW
      have hEX := hf4_0
      have hWr : WB g A s.heap H locs ((hv J [42] [] J), L, I, P, E, N) (sgX g ++ dy) := by
        rw [← ag_hvE (J := J) (R := [42]) (F := []) ag_rf]
        exact hW
      subst hQ9
      exact end_i C hr hlocks J hWr (by first | exact Or.inr (⟨by first | rfl | assumption, by omega, show (∃ o : Int32, OPN o (J 112) (J 108) (fun k => I 6 2 (elt E P 20 k)) (J 22 2).toInt (J 20 2).toInt ∧ BKR (BRF (fun t => HIT2 (SQ o t) (J 112) (J 108) (fun k => I 6 2 (elt E P 20 k)) (J 22 2).toInt) (fun t => CB (tN (SQ o t)) 32) (fun t => (SQ o t).toInt) (2 ^ CB (tN o) 24)) a0.toInt r4.toInt) from (by exact hEX)⟩)) dX11_breaks_24
    · have c3 : 2 < a0.toInt := tnle rfl kp2 c3
      refine lv_aload_n hx hb dX11_breaks_9 rfl (lv_at hl 0 rfl) ?_
      refine lv_bipush (v := (-2)) hx hb dX11_breaks_10 (by decide) ?_
      refine ci_ C hW (runV (x := (g.2.2.1 12)) (As := [.int (-2)]) (rest := []) (T := ((J, L, I, P, E, N), sgX g ++ dy)) C hW (c_X11_refuse l g J L I P E N dy H.size (-2) hwf) mi_X11_refuse tw_411 (recv_ (T := ((J, L, I, P, E, N), sgX g ++ dy)) C hW (mx_ rfl) rfl rfl) ⟨rfl, rfl, Nat.le_of_ble_eq_true rfl, Nat.le_of_ble_eq_true rfl⟩ rfl hl.1 rfl (Nat.le_of_ble_eq_true rfl) dX11_breaks_12 ⟨Nat.le_of_ble_eq_true rfl, Nat.le_of_ble_eq_true rfl⟩) (fun r5 u5 H locs hp5 hW => ?_)
      have hc5 : ((r5 = (-2))) := hp5
      clear hp5
      have hr5 : r5.toInt = (-2) := by rw [hc5]; exact kn2
      have hW : WB g A s.heap H locs ((hv J [42] [] u5), L, I, P, E, N) (sgX g ++ dy) := hW
      have hWr : WB g A s.heap H locs ((hv J [42] [] (hv J [42] [] u5)), L, I, P, E, N) (sgX g ++ dy) := by
        rw [← ag_hvE (J := J) (R := [42]) (F := []) (ag_hv rfl rfl ag_rf)]
        exact hW
      subst hQ9
      exact end_i C hr hlocks (hv J [42] [] u5) hWr (by first | exact Or.inl ⟨by omega, by omega⟩) dX11_breaks_15

set_option maxHeartbeats 4000000 in
set_option maxRecDepth 100000 in
theorem c_X5_init_q (l : Launch) (g : gG) (J : Nat → Nat → Int32) (L : Nat → Nat → Int64) (I : Nat → Nat → Nat → Int32) (P : Nat → Nat → Nat → Option Nat) (E : Nat → Option Nat) (N : Nat → Nat) (dy : List (Nat × Nat)) (sz : Nat) (o : Nat) (hmo : (6, o) ∈ dy) (a0 : Nat) (hm0 : (6, a0) ∈ dy) (a1 : Int32) (a2 : Int32) (hi19 : 0 ≤ a2.toInt ∧ a2.toInt ≤ 19) : Met l yX5_init (WS yX5_init cX5_init 5 none) (RM (2) 0 0) (PC g [.ref o, .ref a0, .int a1, .int a2] ((J, L, I, P, E, N), sgX g ++ dy) sz) (va_Qv (fun (u : Int32) => (∀ i : Nat, i < 32 → (IB u i = true ↔ IB (I 6 2 a0) i = true ∨ (a2.toInt ≤ 11 ∧ i = a2.toInt.toNat)))) (fun u t => at_ g (FR g ((J, L, I, P, E, N), sgX g ++ dy) sz) (((J, L, (up3 (up3 I 6 1 o a1) 6 2 o u), (up3 P 6 0 o (some a0)), E, N), sgX g ++ dy)) t) (FR g ((J, L, I, P, E, N), sgX g ++ dy) sz)) 0 0 (FR g ((J, L, I, P, E, N), sgX g ++ dy) sz) := by
  refine ent (by decide +kernel) (Nat.le_of_ble_eq_true rfl) ?_
  intro p e s m below meth c ls hsz C hW hr hlocks hname hl
  generalize FR g ((J, L, I, P, E, N), sgX g ++ dy) sz = A at C hW ⊢
  generalize hQ9 : (va_Qv (fun (u : Int32) => (∀ i : Nat, i < 32 → (IB u i = true ↔ IB (I 6 2 a0) i = true ∨ (a2.toInt ≤ 11 ∧ i = a2.toInt.toNat)))) (fun u t => at_ g A (((J, L, (up3 (up3 I 6 1 o a1) 6 2 o u), (up3 P 6 0 o (some a0)), E, N), sgX g ++ dy)) t) A) = Q9
  have hx := C.1.1
  have hb := C.1.2.1
  have hts := C.1.2.2.2.2
  have hl : lv_has ls 5 [(0, .ref o), (1, .ref a0), (2, .int a1), (3, .int a2)] := hl
  obtain ⟨H, hH⟩ : ∃ H : Heap, H = s.heap := ⟨_, rfl⟩
  obtain ⟨locs, hlocs⟩ : ∃ q : List Loc, q = [] := ⟨_, rfl⟩
  have hW : WB g A s.heap H locs (J, L, I, P, E, N) (sgX g ++ dy) := by rw [hH, hlocs]; exact hW
  refine start_ hH hlocs ?_
  refine lv_aload_n hx hb dX5_init_0 rfl (lv_at hl 0 rfl) ?_
  refine W.objInit hx hb C.1.2.2.2.1 (hts _ tw_136) (hts _ tw_97) (hts _ tw_oi2) rfl (by rw [C.1.2.2.1]; exact hl.1) rfl dX5_init_1 (Nat.le_of_ble_eq_true rfl) (Nat.le_of_ble_eq_true rfl) ?_
  show W p l e (RM (2) 0 0) s m ([.ref o, .ref a0, .int a1, .int a2] : List Value).toArray below meth c H locs 0 0 (MQ below Q9 ([.ref o, .ref a0, .int a1, .int a2] : List Value).toArray s 0 0 A) (F0 m 4 ls [])
  refine lv_aload_n hx hb dX5_init_4 rfl (lv_at hl 0 rfl) ?_
  refine lv_aload_n hx hb dX5_init_5 rfl (lv_at hl 1 rfl) ?_
  refine rp_6_0 (v := some a0) C hname rfl hW (List.mem_append_right _ hmo) tw_137 dX5_init_6 (fun H locs hW => ?_)
  have hW : WB g A s.heap H locs (J, L, I, (up3 P 6 0 o (some a0)), E, N) (sgX g ++ dy) := hW
  refine lv_aload_n hx hb dX5_init_9 rfl (lv_at hl 0 rfl) ?_
  refine lv_iload_n hx hb dX5_init_10 rfl (lv_at hl 2 rfl) ?_
  refine rp_6_1 C hname rfl hW (List.mem_append_right _ hmo) tw_139 dX5_init_11 (fun H locs hW => ?_)
  have hW : WB g A s.heap H locs (J, L, (up3 I 6 1 o a1), (up3 P 6 0 o (some a0)), E, N) (sgX g ++ dy) := hW
  refine lv_aload_n hx hb dX5_init_14 rfl (lv_at hl 1 rfl) ?_
  refine lv_ifnull hx hb dX5_init_15 ?_
  refine lv_iload_n hx hb dX5_init_18 rfl (lv_at hl 3 rfl) ?_
  refine lv_bipush (v := 11) hx hb dX5_init_19 (by decide) ?_
  refine lv_icmp_le (tgt := 28) hx hb dX5_init_21 (by decide) (fun c1 => ?_) (fun c1 => ?_)
  · have c1 : a2.toInt ≤ 11 := tle rfl kp11 c1
    refine lv_iconst (v := 1) hx hb dX5_init_28 (by decide) ?_
    refine lv_iload_n hx hb dX5_init_29 rfl (lv_at hl 3 rfl) ?_
    refine lv_ishl hx hb dX5_init_30 ?_
    refine lv_topi (fun x2 (e2 : x2 = 1 <<< (a2 &&& 31)) => ?_)
    have t2 := i32r x2
    refine lv_istore (lv' := [(4, .int x2), (0, .ref o), (1, .ref a0), (2, .int a1), (3, .int a2)]) hx hb dX5_init_31 hl (by decide) rfl (fun ls hl => ?_)
    refine lv_aload_n hx hb dX5_init_33 rfl (lv_at hl 1 rfl) ?_
    refine lv_aload_n hx hb dX5_init_34 rfl (lv_at hl 2 rfl) ?_
    refine lv_ifnonnull (tgt := 42) hx hb dX5_init_35 (by decide) ?_
    refine lv_aload_n hx hb dX5_init_42 rfl (lv_at hl 2 rfl) ?_
    refine rg_6_2 C hW (List.mem_append_right _ hm0) tw_140 dX5_init_43 ?_
    refine lv_topi (fun x3 (e3 : x3 = I 6 2 a0) => ?_)
    have t3 : x3.toInt = (I 6 2 a0).toInt := by rw [e3]
    refine lv_iload hx hb dX5_init_46 (lv_at hl 0 rfl) ?_
    refine lv_ior hx hb dX5_init_48 ?_
    refine lv_topi (fun x4 (e4 : x4 = x3 ||| x2) => ?_)
    have hpo : x4 = I 6 2 a0 ||| x2 := (e4).trans (congrArg (· ||| x2) e3)
    have hps : x2 = (1 : Int32) <<< (a2 &&& 31) ∧ 0 ≤ a2.toInt ∧ a2.toInt ≤ 11 := ⟨e2, by omega, by omega⟩
    refine rp_6_2 C hname rfl hW (List.mem_append_right _ hmo) tw_140 dX5_init_49 (fun H locs hW => ?_)
    have hW : WB g A s.heap H locs (J, L, (up3 (up3 I 6 1 o a1) 6 2 o x4), (up3 P 6 0 o (some a0)), E, N) (sgX g ++ dy) := hW
    subst hQ9
    exact end_v C hr hlocks x4 hW (by show ∀ i : Nat, i < 32 → (IB x4 i = true ↔ IB (I 6 2 a0) i = true ∨ (a2.toInt ≤ 11 ∧ i = a2.toInt.toNat)); first | exact pth_n hpo hpl | exact pth_y hpo hps (by omega)) dX5_init_52
  · have c1 : 11 < a2.toInt := tnle rfl kp11 c1
    refine lv_iconst (v := 0) hx hb dX5_init_24 (by decide) ?_
    refine lv_goto (tgt := 31) hx hb dX5_init_25 (by decide) ?_
    refine lv_istore (lv' := [(4, .int 0), (0, .ref o), (1, .ref a0), (2, .int a1), (3, .int a2)]) hx hb dX5_init_31 hl (by decide) rfl (fun ls hl => ?_)
    refine lv_aload_n hx hb dX5_init_33 rfl (lv_at hl 1 rfl) ?_
    refine lv_aload_n hx hb dX5_init_34 rfl (lv_at hl 2 rfl) ?_
    refine lv_ifnonnull (tgt := 42) hx hb dX5_init_35 (by decide) ?_
    refine lv_aload_n hx hb dX5_init_42 rfl (lv_at hl 2 rfl) ?_
    refine rg_6_2 C hW (List.mem_append_right _ hm0) tw_140 dX5_init_43 ?_
    refine lv_topi (fun x5 (e5 : x5 = I 6 2 a0) => ?_)
    have t5 : x5.toInt = (I 6 2 a0).toInt := by rw [e5]
    refine lv_iload hx hb dX5_init_46 (lv_at hl 0 rfl) ?_
    refine lv_ior hx hb dX5_init_48 ?_
    refine lv_topi (fun x6 (e6 : x6 = x5 ||| 0) => ?_)
    have hpo : x6 = I 6 2 a0 ||| 0 := (e6).trans (congrArg (· ||| 0) e5)
    have hpl : 11 < a2.toInt := by omega
    refine rp_6_2 C hname rfl hW (List.mem_append_right _ hmo) tw_140 dX5_init_49 (fun H locs hW => ?_)
    have hW : WB g A s.heap H locs (J, L, (up3 (up3 I 6 1 o a1) 6 2 o x6), (up3 P 6 0 o (some a0)), E, N) (sgX g ++ dy) := hW
    subst hQ9
    exact end_v C hr hlocks x6 hW (by show ∀ i : Nat, i < 32 → (IB x6 i = true ↔ IB (I 6 2 a0) i = true ∨ (a2.toInt ≤ 11 ∧ i = a2.toInt.toNat)); first | exact pth_n hpo hpl | exact pth_y hpo hps (by omega)) dX5_init_52

set_option maxHeartbeats 4000000 in
set_option maxRecDepth 100000 in
theorem c_X11_node_q (l : Launch) (g : gG) (J : Nat → Nat → Int32) (L : Nat → Nat → Int64) (I : Nat → Nat → Nat → Int32) (P : Nat → Nat → Nat → Option Nat) (E : Nat → Option Nat) (N : Nat → Nat) (dy : List (Nat × Nat)) (sz : Nat) (a0 : Int32) (a1 : Int32) (hwf : WXF g J P E N dy) : Met l yX11_node (WS yX11_node cX11_node 5 (some .int)) (RM (8) 10 20100) (PC g [.ref (g.2.2.1 12), .int a0, .int a1] ((J, L, I, P, E, N), sgX g ++ dy) sz) (va_Qi (fun (r : Int32) (u : (Nat → Nat → Int32) × (Nat → Nat → Nat → Int32) × (Nat → Nat → Nat → Option Nat) × (Nat → Option Nat) × (Nat → Nat) × List (Nat × Nat)) => ((r.toInt = (-1) ∧ (¬ (0 ≤ a0.toInt ∧ a0.toInt < (J 20 2).toInt)) ∧ u.1 20 2 = J 20 2 ∧ (∀ k : Nat, elt (hv1 E [20] u.2.2.2.1) (hv P [6, 30] [] u.2.2.1) 20 k = elt E P 20 k) ∧ u.2.1 6 = I 6 ∧ (∀ a : Nat, (hv P [6, 30] [] u.2.2.1) 6 0 a = P 6 0 a)) ∨ (r.toInt = (-4) ∧ (0 ≤ a0.toInt ∧ a0.toInt < (J 20 2).toInt ∧ a1.toInt < 1) ∧ u.1 20 2 = J 20 2 ∧ (∀ k : Nat, elt (hv1 E [20] u.2.2.2.1) (hv P [6, 30] [] u.2.2.1) 20 k = elt E P 20 k) ∧ u.2.1 6 = I 6 ∧ (∀ a : Nat, (hv P [6, 30] [] u.2.2.1) 6 0 a = P 6 0 a)) ∨ (r.toInt = (-6) ∧ (0 ≤ a0.toInt ∧ a0.toInt < (J 20 2).toInt ∧ 1 ≤ a1.toInt ∧ (99 < a1.toInt ∨ 20 ≤ (J 20 2).toInt)) ∧ u.1 20 2 = J 20 2 ∧ (∀ k : Nat, elt (hv1 E [20] u.2.2.2.1) (hv P [6, 30] [] u.2.2.1) 20 k = elt E P 20 k) ∧ u.2.1 6 = I 6 ∧ (∀ a : Nat, (hv P [6, 30] [] u.2.2.1) 6 0 a = P 6 0 a)) ∨ (r.toInt = (J 20 2).toInt ∧ (0 ≤ a0.toInt ∧ a0.toInt < (J 20 2).toInt ∧ 1 ≤ a1.toInt ∧ a1.toInt ≤ 99 ∧ (J 20 2).toInt ≤ 19) ∧ (u.1 20 2).toInt = (J 20 2).toInt + 1 ∧ NOBJ I u.2.1 E (hv1 E [20] u.2.2.2.1) P (hv P [6, 30] [] u.2.2.1) 20 6 (J 20 2).toInt dy ∧ (∀ j : Nat, (j : Int) = (J 20 2).toInt → u.2.1 6 1 (elt (hv1 E [20] u.2.2.2.1) (hv P [6, 30] [] u.2.2.1) 20 j) = a1 ∧ u.2.1 6 3 (elt (hv1 E [20] u.2.2.2.1) (hv P [6, 30] [] u.2.2.1) 20 j) = 0 ∧ u.2.1 6 4 (elt (hv1 E [20] u.2.2.2.1) (hv P [6, 30] [] u.2.2.1) 20 j) = 0 ∧ u.2.1 6 5 (elt (hv1 E [20] u.2.2.2.1) (hv P [6, 30] [] u.2.2.1) 20 j) = 0) ∧ (∀ j9 : Nat, (j9 : Int) = (J 20 2).toInt → (hv P [6, 30] [] u.2.2.1) 6 0 (elt (hv1 E [20] u.2.2.2.1) (hv P [6, 30] [] u.2.2.1) 20 j9) = some (elt E P 20 a0.toNatClampNeg)) ∧ (∀ a9 : Nat, (6, a9) ∈ dy → (hv P [6, 30] [] u.2.2.1) 6 0 a9 = P 6 0 a9) ∧ (∀ j9 : Nat, (j9 : Int) = (J 20 2).toInt → ∀ i : Nat, i < 32 → (IB (u.2.1 6 2 (elt (hv1 E [20] u.2.2.2.1) (hv P [6, 30] [] u.2.2.1) 20 j9)) i = true ↔ IB (I 6 2 (elt E P 20 a0.toNatClampNeg)) i = true ∨ ((J 20 2).toInt ≤ 11 ∧ i = (J 20 2).toInt.toNat))))) ∧ WXF g (hv J [42] [(20, 0), (20, 2)] u.1) (hv P [6, 30] [] u.2.2.1) (hv1 E [20] u.2.2.2.1) u.2.2.2.2.1 u.2.2.2.2.2 ∧ (∀ x ∈ dy, x ∈ u.2.2.2.2.2) ∧ (∀ x ∈ dy, u.2.2.2.2.1 x.2 = N x.2)) (fun u t => at_ g (FR g ((J, L, I, P, E, N), sgX g ++ dy) sz) ((((hv J [42] [(20, 0), (20, 2)] u.1), L, (hv I [6] [] u.2.1), (hv P [6, 30] [] u.2.2.1), (hv1 E [20] u.2.2.2.1), u.2.2.2.2.1), sgX g ++ u.2.2.2.2.2)) t) (FR g ((J, L, I, P, E, N), sgX g ++ dy) sz)) 10 20100 (FR g ((J, L, I, P, E, N), sgX g ++ dy) sz) := by
  refine ent (by decide +kernel) (Nat.le_of_ble_eq_true rfl) ?_
  intro p e s m below meth c ls hsz C hW hr hlocks hname hl
  generalize FR g ((J, L, I, P, E, N), sgX g ++ dy) sz = A at C hW ⊢
  generalize hQ9 : (va_Qi (fun (r : Int32) (u : (Nat → Nat → Int32) × (Nat → Nat → Nat → Int32) × (Nat → Nat → Nat → Option Nat) × (Nat → Option Nat) × (Nat → Nat) × List (Nat × Nat)) => ((r.toInt = (-1) ∧ (¬ (0 ≤ a0.toInt ∧ a0.toInt < (J 20 2).toInt)) ∧ u.1 20 2 = J 20 2 ∧ (∀ k : Nat, elt (hv1 E [20] u.2.2.2.1) (hv P [6, 30] [] u.2.2.1) 20 k = elt E P 20 k) ∧ u.2.1 6 = I 6 ∧ (∀ a : Nat, (hv P [6, 30] [] u.2.2.1) 6 0 a = P 6 0 a)) ∨ (r.toInt = (-4) ∧ (0 ≤ a0.toInt ∧ a0.toInt < (J 20 2).toInt ∧ a1.toInt < 1) ∧ u.1 20 2 = J 20 2 ∧ (∀ k : Nat, elt (hv1 E [20] u.2.2.2.1) (hv P [6, 30] [] u.2.2.1) 20 k = elt E P 20 k) ∧ u.2.1 6 = I 6 ∧ (∀ a : Nat, (hv P [6, 30] [] u.2.2.1) 6 0 a = P 6 0 a)) ∨ (r.toInt = (-6) ∧ (0 ≤ a0.toInt ∧ a0.toInt < (J 20 2).toInt ∧ 1 ≤ a1.toInt ∧ (99 < a1.toInt ∨ 20 ≤ (J 20 2).toInt)) ∧ u.1 20 2 = J 20 2 ∧ (∀ k : Nat, elt (hv1 E [20] u.2.2.2.1) (hv P [6, 30] [] u.2.2.1) 20 k = elt E P 20 k) ∧ u.2.1 6 = I 6 ∧ (∀ a : Nat, (hv P [6, 30] [] u.2.2.1) 6 0 a = P 6 0 a)) ∨ (r.toInt = (J 20 2).toInt ∧ (0 ≤ a0.toInt ∧ a0.toInt < (J 20 2).toInt ∧ 1 ≤ a1.toInt ∧ a1.toInt ≤ 99 ∧ (J 20 2).toInt ≤ 19) ∧ (u.1 20 2).toInt = (J 20 2).toInt + 1 ∧ NOBJ I u.2.1 E (hv1 E [20] u.2.2.2.1) P (hv P [6, 30] [] u.2.2.1) 20 6 (J 20 2).toInt dy ∧ (∀ j : Nat, (j : Int) = (J 20 2).toInt → u.2.1 6 1 (elt (hv1 E [20] u.2.2.2.1) (hv P [6, 30] [] u.2.2.1) 20 j) = a1 ∧ u.2.1 6 3 (elt (hv1 E [20] u.2.2.2.1) (hv P [6, 30] [] u.2.2.1) 20 j) = 0 ∧ u.2.1 6 4 (elt (hv1 E [20] u.2.2.2.1) (hv P [6, 30] [] u.2.2.1) 20 j) = 0 ∧ u.2.1 6 5 (elt (hv1 E [20] u.2.2.2.1) (hv P [6, 30] [] u.2.2.1) 20 j) = 0) ∧ (∀ j9 : Nat, (j9 : Int) = (J 20 2).toInt → (hv P [6, 30] [] u.2.2.1) 6 0 (elt (hv1 E [20] u.2.2.2.1) (hv P [6, 30] [] u.2.2.1) 20 j9) = some (elt E P 20 a0.toNatClampNeg)) ∧ (∀ a9 : Nat, (6, a9) ∈ dy → (hv P [6, 30] [] u.2.2.1) 6 0 a9 = P 6 0 a9) ∧ (∀ j9 : Nat, (j9 : Int) = (J 20 2).toInt → ∀ i : Nat, i < 32 → (IB (u.2.1 6 2 (elt (hv1 E [20] u.2.2.2.1) (hv P [6, 30] [] u.2.2.1) 20 j9)) i = true ↔ IB (I 6 2 (elt E P 20 a0.toNatClampNeg)) i = true ∨ ((J 20 2).toInt ≤ 11 ∧ i = (J 20 2).toInt.toNat))))) ∧ WXF g (hv J [42] [(20, 0), (20, 2)] u.1) (hv P [6, 30] [] u.2.2.1) (hv1 E [20] u.2.2.2.1) u.2.2.2.2.1 u.2.2.2.2.2 ∧ (∀ x ∈ dy, x ∈ u.2.2.2.2.2) ∧ (∀ x ∈ dy, u.2.2.2.2.1 x.2 = N x.2)) (fun u t => at_ g A ((((hv J [42] [(20, 0), (20, 2)] u.1), L, (hv I [6] [] u.2.1), (hv P [6, 30] [] u.2.2.1), (hv1 E [20] u.2.2.2.1), u.2.2.2.2.1), sgX g ++ u.2.2.2.2.2)) t) A) = Q9
  have hx := C.1.1
  have hb := C.1.2.1
  have hts := C.1.2.2.2.2
  have hl : lv_has ls 5 [(0, .ref (g.2.2.1 12)), (1, .int a0), (2, .int a1)] := hl
  obtain ⟨H, hH⟩ : ∃ H : Heap, H = s.heap := ⟨_, rfl⟩
  obtain ⟨locs, hlocs⟩ : ∃ q : List Loc, q = [] := ⟨_, rfl⟩
  have hW : WB g A s.heap H locs (J, L, I, P, E, N) (sgX g ++ dy) := by rw [hH, hlocs]; exact hW
  refine start_ hH hlocs ?_
  refine lv_aload_n hx hb dX11_node_0 rfl (lv_at hl 0 rfl) ?_
  refine rg_12_0 C hW (mx_ rfl) tw_364 dX11_node_1 ?_
  refine lv_iload_n hx hb dX11_node_4 rfl (lv_at hl 1 rfl) ?_
  refine cq_ C hW (runV (x := (g.2.2.1 4)) (As := [.int a0]) (rest := []) (T := ((J, L, I, P, E, N), sgX g ++ dy)) C hW (c_X3_nodeOf l g J L I P E N dy H.size a0 hwf) mi_X3_nodeOf tw_463 (recv_ (T := ((J, L, I, P, E, N), sgX g ++ dy)) C hW (mx_ rfl) rfl rfl) ⟨rfl, rfl, Nat.le_of_ble_eq_true rfl, Nat.le_of_ble_eq_true rfl⟩ rfl hl.1 rfl (Nat.le_of_ble_eq_true rfl) dX11_node_5 ⟨Nat.le_of_ble_eq_true rfl, Nat.le_of_ble_eq_true rfl⟩) (fun q1 u1 H locs hp1 hW => ?_)
  have hq1 : ((q1 = none ∧ (¬ (0 ≤ a0.toInt ∧ a0.toInt < (J 20 2).toInt))) ∨ (q1 = some (elt E P 20 a0.toNatClampNeg) ∧ (0 ≤ a0.toInt ∧ a0.toInt < (J 20 2).toInt))) := hp1
  clear hp1
  have hW : WB g A s.heap H locs (J, L, I, P, E, N) (sgX g ++ dy) := hW
  rcases hq1 with ⟨rfl, hn1⟩ | ⟨rfl, hs1⟩
  · refine lv_asv (v' := .null) rfl ?_
    refine lv_astore_nN (lv' := [(3, .null), (0, .ref (g.2.2.1 12)), (1, .int a0), (2, .int a1)]) hx hb dX11_node_8 rfl hl (by decide) rfl (fun ls hl => ?_)
    refine lv_aload_nN hx hb dX11_node_9 rfl (lv_at hl 0 rfl) ?_
    refine lv_ifnonnullN hx hb dX11_node_10 ?_
    refine lv_aload_n hx hb dX11_node_13 rfl (lv_at hl 1 rfl) ?_
    refine lv_iconst (v := (-1)) hx hb dX11_node_14 (by decide) ?_
    refine ci_ C hW (runV (x := (g.2.2.1 12)) (As := [.int (-1)]) (rest := []) (T := ((J, L, I, P, E, N), sgX g ++ dy)) C hW (c_X11_refuse l g J L I P E N dy H.size (-1) hwf) mi_X11_refuse tw_411 (recv_ (T := ((J, L, I, P, E, N), sgX g ++ dy)) C hW (mx_ rfl) rfl rfl) ⟨rfl, rfl, Nat.le_of_ble_eq_true rfl, Nat.le_of_ble_eq_true rfl⟩ rfl hl.1 rfl (Nat.le_of_ble_eq_true rfl) dX11_node_15 ⟨Nat.le_of_ble_eq_true rfl, Nat.le_of_ble_eq_true rfl⟩) (fun r2 u2 H locs hp2 hW => ?_)
    have hc2 : ((r2 = (-1))) := hp2
    clear hp2
    have hr2 : r2.toInt = (-1) := by rw [hc2]; exact kn1
    have hW : WB g A s.heap H locs ((hv J [42] [] u2), L, I, P, E, N) (sgX g ++ dy) := hW
    have hJe : (hv J [42] [] u2) = hv J [42] [(20, 0), (20, 2)] (hv J [42] [] u2) := ag_hvE (J := J) (R := [42]) (F := [(20, 0), (20, 2)]) (ag_hv rfl rfl ag_rf)
    have hIe : I = hv I [6] [] I := ag_hvE (J := I) (R := [6]) (F := []) ag_rf
    have hPe : P = hv P [6, 30] [] P := ag_hvE (J := P) (R := [6, 30]) (F := []) ag_rf
    have hEe : E = hv1 E [20] E := hv1_e (R := [20]) (fun _ _ => rfl)
    have hWr : WB g A s.heap H locs (hv J [42] [(20, 0), (20, 2)] (hv J [42] [] u2), L, hv I [6] [] I, hv P [6, 30] [] P, hv1 E [20] E, N) (sgX g ++ dy) := by
      rw [← hJe, ← hIe, ← hPe, ← hEe]; exact hW
    have hwr : WXF g (hv J [42] [(20, 0), (20, 2)] (hv J [42] [] u2)) (hv P [6, 30] [] P) (hv1 E [20] E) N dy := by
      rw [← hJe, ← hPe, ← hEe]; exact hwf
    refine W.widen (k := 10) (n := 20100) (Nat.le_of_ble_eq_true rfl) (Nat.le_of_ble_eq_true rfl) ?_
    subst hQ9
    exact end_i C hr hlocks ((hv J [42] [] u2), I, P, E, N, dy) hWr ⟨by first | exact Or.inl ⟨by omega, by omega, show J 20 2 = J 20 2 from by first | rfl | (intro k hk; rfl) | (intro k; rfl), show (∀ k : Nat, elt E P 20 k = elt E P 20 k) from by first | rfl | (intro k hk; rfl) | (intro k; rfl), show I 6 = I 6 from by first | rfl | (intro k hk; rfl) | (intro k; rfl), show (∀ a : Nat, P 6 0 a = P 6 0 a) from by first | rfl | (intro k hk; rfl) | (intro k; rfl)⟩ | exact Or.inr (Or.inl ⟨by omega, by omega, show J 20 2 = J 20 2 from by first | rfl | (intro k hk; rfl) | (intro k; rfl), show (∀ k : Nat, elt E P 20 k = elt E P 20 k) from by first | rfl | (intro k hk; rfl) | (intro k; rfl), show I 6 = I 6 from by first | rfl | (intro k hk; rfl) | (intro k; rfl), show (∀ a : Nat, P 6 0 a = P 6 0 a) from by first | rfl | (intro k hk; rfl) | (intro k; rfl)⟩) | exact Or.inr (Or.inr (Or.inl ⟨by omega, by omega, show J 20 2 = J 20 2 from by first | rfl | (intro k hk; rfl) | (intro k; rfl), show (∀ k : Nat, elt E P 20 k = elt E P 20 k) from by first | rfl | (intro k hk; rfl) | (intro k; rfl), show I 6 = I 6 from by first | rfl | (intro k hk; rfl) | (intro k; rfl), show (∀ a : Nat, P 6 0 a = P 6 0 a) from by first | rfl | (intro k hk; rfl) | (intro k; rfl)⟩)) | exact Or.inr (Or.inr (Or.inr (⟨by omega, by omega, show (J 20 2).toInt = (J 20 2).toInt + 1 from by first | rfl | omega | assumption, show NOBJ I I E E P P 20 6 (J 20 2).toInt dy from by first | rfl | omega | assumption, show (∀ j : Nat, (j : Int) = (J 20 2).toInt → I 6 1 (elt E P 20 j) = a1 ∧ I 6 3 (elt E P 20 j) = 0 ∧ I 6 4 (elt E P 20 j) = 0 ∧ I 6 5 (elt E P 20 j) = 0) from by first | rfl | omega | assumption, show (∀ j9 : Nat, (j9 : Int) = (J 20 2).toInt → P 6 0 (elt E P 20 j9) = some (elt E P 20 a0.toNatClampNeg)) from by first | rfl | omega | assumption, show (∀ a9 : Nat, (6, a9) ∈ dy → P 6 0 a9 = P 6 0 a9) from by first | rfl | omega | assumption, show (∀ j9 : Nat, (j9 : Int) = (J 20 2).toInt → ∀ i : Nat, i < 32 → (IB (I 6 2 (elt E P 20 j9)) i = true ↔ IB (I 6 2 (elt E P 20 a0.toNatClampNeg)) i = true ∨ ((J 20 2).toInt ≤ 11 ∧ i = (J 20 2).toInt.toNat))) from by first | rfl | omega | assumption⟩))), hwr, fun x hx => hx, show ∀ x ∈ dy, N x.2 = N x.2 from by exact fun _ _ => rfl⟩ dX11_node_18
  · skip
    obtain ⟨o1, ho1⟩ : ∃ z : Nat, z = elt E P 20 a0.toNatClampNeg := ⟨_, rfl⟩
    have hm1 : (6, o1) ∈ dy := by rw [ho1]; exact (lw_mem (er := 6) hwf.1.1 (show (a0.toNatClampNeg : Int) < (J 20 2).toInt from by have := tcl a0; omega))
    refine lv_asv (v' := .ref o1) (by rw [ho1]; rfl) ?_
    refine lv_astore_n (lv' := [(3, .ref o1), (0, .ref (g.2.2.1 12)), (1, .int a0), (2, .int a1)]) hx hb dX11_node_8 rfl hl (by decide) rfl (fun ls hl => ?_)
    refine lv_aload_n hx hb dX11_node_9 rfl (lv_at hl 0 rfl) ?_
    refine lv_ifnonnull (tgt := 19) hx hb dX11_node_10 (by decide) ?_
    refine lv_iload_n hx hb dX11_node_19 rfl (lv_at hl 3 rfl) ?_
    refine lv_iconst (v := 1) hx hb dX11_node_20 (by decide) ?_
    refine lv_icmp_ge (tgt := 31) hx hb dX11_node_21 (by decide) (fun c3 => ?_) (fun c3 => ?_)
    · have c3 : 1 ≤ a1.toInt := tle kp1 rfl c3
      refine lv_aload_n hx hb dX11_node_31 rfl (lv_at hl 1 rfl) ?_
      refine rg_12_0 C hW (mx_ rfl) tw_364 dX11_node_32 ?_
      refine rg_4_0 C hW (mx_ rfl) tw_233 dX11_node_35 ?_
      refine ci_ C hW (runV (x := (g.2.2.1 20)) (As := []) (rest := []) (T := ((J, L, I, P, E, N), sgX g ++ dy)) C hW (c_Jx4a65c_size_8abf5 l g J L I P E N dy H.size 20 rfl ) mi_Jx4a65c_size_8abf5 tw_485 (recv_ (T := ((J, L, I, P, E, N), sgX g ++ dy)) C hW (mx_ rfl) (cel_list rfl) rfl) ⟨rfl, rfl, Nat.le_of_ble_eq_true rfl, Nat.le_of_ble_eq_true rfl⟩ rfl hl.1 rfl (Nat.le_of_ble_eq_true rfl) dX11_node_38 ⟨Nat.le_of_ble_eq_true rfl, Nat.le_of_ble_eq_true rfl⟩) (fun r4 u4 H locs hp4 hW => ?_)
      have hc4 : ((r4 = J 20 2)) := hp4
      clear hp4
      have hr4 : r4 = J 20 2 := hc4
      refine lv_as (J 20 2) hr4 ?_
      have hW : WB g A s.heap H locs (J, L, I, P, E, N) (sgX g ++ dy) := hW
      refine lv_istore (lv' := [(4, .int (J 20 2)), (3, .ref o1), (0, .ref (g.2.2.1 12)), (1, .int a0), (2, .int a1)]) hx hb dX11_node_41 hl (by decide) rfl (fun ls hl => ?_)
      refine lv_iload_n hx hb dX11_node_43 rfl (lv_at hl 4 rfl) ?_
      refine lv_bipush (v := 99) hx hb dX11_node_44 (by decide) ?_
      refine lv_icmp_gt (tgt := 56) hx hb dX11_node_46 (by decide) (fun c5 => ?_) (fun c5 => ?_)
      · have c5 : 99 < a1.toInt := tlt kp99 rfl c5
        refine lv_aload_n hx hb dX11_node_56 rfl (lv_at hl 2 rfl) ?_
        refine lv_bipush (v := (-6)) hx hb dX11_node_57 (by decide) ?_
        refine ci_ C hW (runV (x := (g.2.2.1 12)) (As := [.int (-6)]) (rest := []) (T := ((J, L, I, P, E, N), sgX g ++ dy)) C hW (c_X11_refuse l g J L I P E N dy H.size (-6) hwf) mi_X11_refuse tw_411 (recv_ (T := ((J, L, I, P, E, N), sgX g ++ dy)) C hW (mx_ rfl) rfl rfl) ⟨rfl, rfl, Nat.le_of_ble_eq_true rfl, Nat.le_of_ble_eq_true rfl⟩ rfl hl.1 rfl (Nat.le_of_ble_eq_true rfl) dX11_node_59 ⟨Nat.le_of_ble_eq_true rfl, Nat.le_of_ble_eq_true rfl⟩) (fun r6 u6 H locs hp6 hW => ?_)
        have hc6 : ((r6 = (-6))) := hp6
        clear hp6
        have hr6 : r6.toInt = (-6) := by rw [hc6]; exact kn6
        have hW : WB g A s.heap H locs ((hv J [42] [] u6), L, I, P, E, N) (sgX g ++ dy) := hW
        have hJe : (hv J [42] [] u6) = hv J [42] [(20, 0), (20, 2)] (hv J [42] [] u6) := ag_hvE (J := J) (R := [42]) (F := [(20, 0), (20, 2)]) (ag_hv rfl rfl ag_rf)
        have hIe : I = hv I [6] [] I := ag_hvE (J := I) (R := [6]) (F := []) ag_rf
        have hPe : P = hv P [6, 30] [] P := ag_hvE (J := P) (R := [6, 30]) (F := []) ag_rf
        have hEe : E = hv1 E [20] E := hv1_e (R := [20]) (fun _ _ => rfl)
        have hWr : WB g A s.heap H locs (hv J [42] [(20, 0), (20, 2)] (hv J [42] [] u6), L, hv I [6] [] I, hv P [6, 30] [] P, hv1 E [20] E, N) (sgX g ++ dy) := by
          rw [← hJe, ← hIe, ← hPe, ← hEe]; exact hW
        have hwr : WXF g (hv J [42] [(20, 0), (20, 2)] (hv J [42] [] u6)) (hv P [6, 30] [] P) (hv1 E [20] E) N dy := by
          rw [← hJe, ← hPe, ← hEe]; exact hwf
        refine W.widen (k := 10) (n := 20100) (Nat.le_of_ble_eq_true rfl) (Nat.le_of_ble_eq_true rfl) ?_
        subst hQ9
        exact end_i C hr hlocks ((hv J [42] [] u6), I, P, E, N, dy) hWr ⟨by first | exact Or.inl ⟨by omega, by omega, show J 20 2 = J 20 2 from by first | rfl | (intro k hk; rfl) | (intro k; rfl), show (∀ k : Nat, elt E P 20 k = elt E P 20 k) from by first | rfl | (intro k hk; rfl) | (intro k; rfl), show I 6 = I 6 from by first | rfl | (intro k hk; rfl) | (intro k; rfl), show (∀ a : Nat, P 6 0 a = P 6 0 a) from by first | rfl | (intro k hk; rfl) | (intro k; rfl)⟩ | exact Or.inr (Or.inl ⟨by omega, by omega, show J 20 2 = J 20 2 from by first | rfl | (intro k hk; rfl) | (intro k; rfl), show (∀ k : Nat, elt E P 20 k = elt E P 20 k) from by first | rfl | (intro k hk; rfl) | (intro k; rfl), show I 6 = I 6 from by first | rfl | (intro k hk; rfl) | (intro k; rfl), show (∀ a : Nat, P 6 0 a = P 6 0 a) from by first | rfl | (intro k hk; rfl) | (intro k; rfl)⟩) | exact Or.inr (Or.inr (Or.inl ⟨by omega, by omega, show J 20 2 = J 20 2 from by first | rfl | (intro k hk; rfl) | (intro k; rfl), show (∀ k : Nat, elt E P 20 k = elt E P 20 k) from by first | rfl | (intro k hk; rfl) | (intro k; rfl), show I 6 = I 6 from by first | rfl | (intro k hk; rfl) | (intro k; rfl), show (∀ a : Nat, P 6 0 a = P 6 0 a) from by first | rfl | (intro k hk; rfl) | (intro k; rfl)⟩)) | exact Or.inr (Or.inr (Or.inr (⟨by omega, by omega, show (J 20 2).toInt = (J 20 2).toInt + 1 from by first | rfl | omega | assumption, show NOBJ I I E E P P 20 6 (J 20 2).toInt dy from by first | rfl | omega | assumption, show (∀ j : Nat, (j : Int) = (J 20 2).toInt → I 6 1 (elt E P 20 j) = a1 ∧ I 6 3 (elt E P 20 j) = 0 ∧ I 6 4 (elt E P 20 j) = 0 ∧ I 6 5 (elt E P 20 j) = 0) from by first | rfl | omega | assumption, show (∀ j9 : Nat, (j9 : Int) = (J 20 2).toInt → P 6 0 (elt E P 20 j9) = some (elt E P 20 a0.toNatClampNeg)) from by first | rfl | omega | assumption, show (∀ a9 : Nat, (6, a9) ∈ dy → P 6 0 a9 = P 6 0 a9) from by first | rfl | omega | assumption, show (∀ j9 : Nat, (j9 : Int) = (J 20 2).toInt → ∀ i : Nat, i < 32 → (IB (I 6 2 (elt E P 20 j9)) i = true ↔ IB (I 6 2 (elt E P 20 a0.toNatClampNeg)) i = true ∨ ((J 20 2).toInt ≤ 11 ∧ i = (J 20 2).toInt.toNat))) from by first | rfl | omega | assumption⟩))), hwr, fun x hx => hx, show ∀ x ∈ dy, N x.2 = N x.2 from by exact fun _ _ => rfl⟩ dX11_node_62
      · have c5 : a1.toInt ≤ 99 := tnlt kp99 rfl c5
        refine lv_iload hx hb dX11_node_49 (lv_at hl 0 rfl) ?_
        refine lv_bipush (v := 20) hx hb dX11_node_51 (by decide) ?_
        refine lv_icmp_lt (tgt := 63) hx hb dX11_node_53 (by decide) (fun c7 => ?_) (fun c7 => ?_)
        · have c7 : (J 20 2).toInt < 20 := tlt rfl kp20 c7
          refine lv_aload_n hx hb dX11_node_63 rfl (lv_at hl 2 rfl) ?_
          refine rg_12_0 C hW (mx_ rfl) tw_364 dX11_node_64 ?_
          refine rg_4_0 C hW (mx_ rfl) tw_233 dX11_node_67 ?_
          refine g_new (r := 6) (S' := fun q => (J, L, clr I 6 q 0, clr P 6 q none, E, N)) (ci := 6) (fs := [.null, .int 0, .int 0, .int 0, .int 0, .int 0, .int 0, .int 0]) C hW rfl rfl in_X5 tyX5 tyX5_ok tw_486 tw_132 tw_72 (fun j hj => by rcases (show j = 0 ∨ j = 1 ∨ j = 2 ∨ j = 3 ∨ j = 4 ∨ j = 5 ∨ j = 6 ∨ j = 7 by omega) with rfl | rfl | rfl | rfl | rfl | rfl | rfl | rfl <;> rfl) (fun q => by simp only [cel, celc, clr_s] <;> rfl) (fun q r' a h => cel_clr 6 q r' a h) ⟨Nat.le_of_ble_eq_true rfl, Nat.le_of_ble_eq_true rfl⟩ dX11_node_70 (fun q8 H hfr8 hW => ?_)
          rw [List.append_assoc] at hW
          have hW : WB g A s.heap H locs (J, L, (clr I 6 q8 0), (clr P 6 q8 none), E, N) (sgX g ++ (dy ++ [(6, q8)])) := hW
          refine lv_dup hx hb dX11_node_73 rfl ?_
          refine lv_aload_n hx hb dX11_node_74 rfl (lv_at hl 1 rfl) ?_
          refine lv_iload_n hx hb dX11_node_75 rfl (lv_at hl 4 rfl) ?_
          refine lv_iload hx hb dX11_node_76 (lv_at hl 0 rfl) ?_
          refine cv_ C hW (runI (x := q8) (As := [.ref o1, .int a1, .int (J 20 2)]) (rest := [.ref q8, .ref (g.2.2.1 20)]) (T := ((J, L, (clr I 6 q8 0), (clr P 6 q8 none), E, N), sgX g ++ (dy ++ [(6, q8)]))) C hW (c_X5_init_q l g J L (clr I 6 q8 0) (clr P 6 q8 none) E N (dy ++ [(6, q8)]) H.size q8 (List.mem_append_right _ (List.mem_singleton.mpr rfl)) o1 (List.mem_append_left _ hm1) a1 (J 20 2) (show 0 ≤ (J 20 2).toInt ∧ (J 20 2).toInt ≤ 19 from by omega)) mi_X5_init tw_487 ⟨rfl, rfl, Nat.le_of_ble_eq_true rfl, Nat.le_of_ble_eq_true rfl⟩ rfl hl.1 rfl (Nat.le_of_ble_eq_true rfl) dX11_node_78 ⟨Nat.le_of_ble_eq_true rfl, Nat.le_of_ble_eq_true rfl⟩) (fun u9 H locs hp9 hW => ?_)
          have hfc : (∀ i : Nat, i < 32 → (IB u9 i = true ↔ IB ((clr I 6 q8 0) 6 2 o1) i = true ∨ ((J 20 2).toInt ≤ 11 ∧ i = (J 20 2).toInt.toNat))) := hp9
          have hW : WB g A s.heap H locs (J, L, (up3 (up3 (clr I 6 q8 0) 6 1 q8 a1) 6 2 q8 u9), (up3 (clr P 6 q8 none) 6 0 q8 (some o1)), E, N) (sgX g ++ (dy ++ [(6, q8)])) := hW
          have hwf : WXF g J (up3 (clr P 6 q8 none) 6 0 q8 (some o1)) E N (dy ++ [(6, q8)]) := wxf_new (J := J) hwf (fun x hx => hfr8 x (List.mem_append_right _ hx)) (fun r f a h => (up3_a _ _ _ _ h _ _).trans (clr_o _ _ _ h _ _)) (fun _ _ => rfl) ⟨fun _ => Or.inr ⟨_, up3_s _ _ _ _ _, hm1⟩, fun h => absurd h (by decide), fun h => absurd h (by decide), fun h => absurd h (by decide)⟩
          refine ci_ C hW (runV (x := (g.2.2.1 20)) (As := [.ref q8]) (rest := []) (T := ((J, L, (up3 (up3 (clr I 6 q8 0) 6 1 q8 a1) 6 2 q8 u9), (up3 (clr P 6 q8 none) 6 0 q8 (some o1)), E, N), sgX g ++ (dy ++ [(6, q8)]))) C hW (c_Jx4a65c_add_9ea2d l g J L (up3 (up3 (clr I 6 q8 0) 6 1 q8 a1) 6 2 q8 u9) (up3 (clr P 6 q8 none) 6 0 q8 (some o1)) E N (dy ++ [(6, q8)]) H.size 6 20 rfl rfl q8 (List.mem_append_right _ (List.mem_singleton.mpr rfl)) hwf.1.1 (show (J 20 2).toInt ≤ 9999 from by omega)) mi_Jx4a65c_add_9ea2d tw_488 (recv_ (T := ((J, L, (up3 (up3 (clr I 6 q8 0) 6 1 q8 a1) 6 2 q8 u9), (up3 (clr P 6 q8 none) 6 0 q8 (some o1)), E, N), sgX g ++ (dy ++ [(6, q8)]))) C hW (mx_ rfl) (cel_list rfl) rfl) ⟨rfl, rfl, Nat.le_of_ble_eq_true rfl, Nat.le_of_ble_eq_true rfl⟩ rfl hl.1 rfl (Nat.le_of_ble_eq_true rfl) dX11_node_81 ⟨Nat.le_of_ble_eq_true rfl, Nat.le_of_ble_eq_true rfl⟩) (fun r10 u10 H locs hp10 hW => ?_)
          obtain ⟨hc10, hG10, hL10, hE10, hF10⟩ := hp10
          have hlo10 : 0 ≤ (J 20 2).toInt := (hwf.1.1).1
          have ht10 : (J 20 2 + 1).toInt = (J 20 2).toInt + 1 := tadd rfl rfl kp1 (by omega)
          have hW : WB g A s.heap H locs ((up2 (up2 J 20 0 u10.1) 20 2 (J 20 2 + 1)), L, (up3 (up3 (clr I 6 q8 0) 6 1 q8 a1) 6 2 q8 u9), (hv (up3 (clr P 6 q8 none) 6 0 q8 (some o1)) [30] [] u10.2.1), (up1 E 20 u10.2.2.1), u10.2.2.2.1) (sgX g ++ u10.2.2.2.2) := hW
          have hwf : WXF g (up2 (up2 J 20 0 u10.1) 20 2 (J 20 2 + 1)) (hv (up3 (clr P 6 q8 none) 6 0 q8 (some o1)) [30] [] u10.2.1) (up1 E 20 u10.2.2.1) u10.2.2.2.1 u10.2.2.2.2 := wxf_add20 hwf hG10 hL10
          refine lv_pop hx hb dX11_node_84 rfl ?_
          refine lv_iload hx hb dX11_node_85 (lv_at hl 0 rfl) ?_
          have hF9 : elt (up1 E 20 u10.2.2.1) (hv (up3 (clr P 6 q8 none) 6 0 q8 (some o1)) [30] [] u10.2.1) 20 (J 20 2).toNatClampNeg = q8 := hF10
          have hJe : (up2 (up2 J 20 0 u10.1) 20 2 (J 20 2 + 1)) = hv J [42] [(20, 0), (20, 2)] (up2 (up2 J 20 0 u10.1) 20 2 (J 20 2 + 1)) := ag_hvE (J := J) (R := [42]) (F := [(20, 0), (20, 2)]) (ag_up (Or.inr rfl) (ag_up (Or.inr rfl) ag_rf))
          have hIe : (up3 (up3 (clr I 6 q8 0) 6 1 q8 a1) 6 2 q8 u9) = hv I [6] [] (up3 (up3 (clr I 6 q8 0) 6 1 q8 a1) 6 2 q8 u9) := ag_hvE (J := I) (R := [6]) (F := []) (ag_up3 (Or.inl rfl) (ag_up3 (Or.inl rfl) (ag_clr rfl ag_rf)))
          have hPe : (hv (up3 (clr P 6 q8 none) 6 0 q8 (some o1)) [30] [] u10.2.1) = hv P [6, 30] [] (hv (up3 (clr P 6 q8 none) 6 0 q8 (some o1)) [30] [] u10.2.1) := ag_hvE (J := P) (R := [6, 30]) (F := []) (ag_hv rfl rfl (ag_up3 (Or.inl rfl) (ag_clr rfl ag_rf)))
          have hEe : (up1 E 20 u10.2.2.1) = hv1 E [20] (up1 E 20 u10.2.2.1) := hv1_e (R := [20]) (up1_ag rfl (fun _ _ => rfl))
          have hWr : WB g A s.heap H locs (hv J [42] [(20, 0), (20, 2)] (up2 (up2 J 20 0 u10.1) 20 2 (J 20 2 + 1)), L, hv I [6] [] (up3 (up3 (clr I 6 q8 0) 6 1 q8 a1) 6 2 q8 u9), hv P [6, 30] [] (hv (up3 (clr P 6 q8 none) 6 0 q8 (some o1)) [30] [] u10.2.1), hv1 E [20] (up1 E 20 u10.2.2.1), u10.2.2.2.1) (sgX g ++ u10.2.2.2.2) := by
            rw [← hJe, ← hIe, ← hPe, ← hEe]; exact hW
          have hwr : WXF g (hv J [42] [(20, 0), (20, 2)] (up2 (up2 J 20 0 u10.1) 20 2 (J 20 2 + 1))) (hv P [6, 30] [] (hv (up3 (clr P 6 q8 none) 6 0 q8 (some o1)) [30] [] u10.2.1)) (hv1 E [20] (up1 E 20 u10.2.2.1)) u10.2.2.2.1 u10.2.2.2.2 := by
            rw [← hJe, ← hPe, ← hEe]; exact hwf
          refine W.widen (k := 10) (n := 20100) (Nat.le_of_ble_eq_true rfl) (Nat.le_of_ble_eq_true rfl) ?_
          subst hQ9
          exact end_i C hr hlocks ((up2 (up2 J 20 0 u10.1) 20 2 (J 20 2 + 1)), (up3 (up3 (clr I 6 q8 0) 6 1 q8 a1) 6 2 q8 u9), (hv (up3 (clr P 6 q8 none) 6 0 q8 (some o1)) [30] [] u10.2.1), (up1 E 20 u10.2.2.1), u10.2.2.2.1, u10.2.2.2.2) hWr ⟨by first | exact Or.inl ⟨by omega, by omega, show J 20 2 + 1 = J 20 2 from by first | rfl | (intro k hk; rfl) | (intro k; rfl), show (∀ k : Nat, elt (up1 E 20 u10.2.2.1) (hv (up3 (clr P 6 q8 none) 6 0 q8 (some o1)) [30] [] u10.2.1) 20 k = elt E P 20 k) from by first | rfl | (intro k hk; rfl) | (intro k; rfl), show (up3 (up3 (clr I 6 q8 0) 6 1 q8 a1) 6 2 q8 u9) 6 = I 6 from by first | rfl | (intro k hk; rfl) | (intro k; rfl), show (∀ a : Nat, (hv (up3 (clr P 6 q8 none) 6 0 q8 (some o1)) [30] [] u10.2.1) 6 0 a = P 6 0 a) from by first | rfl | (intro k hk; rfl) | (intro k; rfl)⟩ | exact Or.inr (Or.inl ⟨by omega, by omega, show J 20 2 + 1 = J 20 2 from by first | rfl | (intro k hk; rfl) | (intro k; rfl), show (∀ k : Nat, elt (up1 E 20 u10.2.2.1) (hv (up3 (clr P 6 q8 none) 6 0 q8 (some o1)) [30] [] u10.2.1) 20 k = elt E P 20 k) from by first | rfl | (intro k hk; rfl) | (intro k; rfl), show (up3 (up3 (clr I 6 q8 0) 6 1 q8 a1) 6 2 q8 u9) 6 = I 6 from by first | rfl | (intro k hk; rfl) | (intro k; rfl), show (∀ a : Nat, (hv (up3 (clr P 6 q8 none) 6 0 q8 (some o1)) [30] [] u10.2.1) 6 0 a = P 6 0 a) from by first | rfl | (intro k hk; rfl) | (intro k; rfl)⟩) | exact Or.inr (Or.inr (Or.inl ⟨by omega, by omega, show J 20 2 + 1 = J 20 2 from by first | rfl | (intro k hk; rfl) | (intro k; rfl), show (∀ k : Nat, elt (up1 E 20 u10.2.2.1) (hv (up3 (clr P 6 q8 none) 6 0 q8 (some o1)) [30] [] u10.2.1) 20 k = elt E P 20 k) from by first | rfl | (intro k hk; rfl) | (intro k; rfl), show (up3 (up3 (clr I 6 q8 0) 6 1 q8 a1) 6 2 q8 u9) 6 = I 6 from by first | rfl | (intro k hk; rfl) | (intro k; rfl), show (∀ a : Nat, (hv (up3 (clr P 6 q8 none) 6 0 q8 (some o1)) [30] [] u10.2.1) 6 0 a = P 6 0 a) from by first | rfl | (intro k hk; rfl) | (intro k; rfl)⟩)) | exact Or.inr (Or.inr (Or.inr (⟨by omega, by omega, show (J 20 2 + 1).toInt = (J 20 2).toInt + 1 from by first | rfl | omega, show NOBJ I (up3 (up3 (clr I 6 q8 0) 6 1 q8 a1) 6 2 q8 u9) E (up1 E 20 u10.2.2.1) P (hv (up3 (clr P 6 q8 none) 6 0 q8 (some o1)) [30] [] u10.2.1) 20 6 (J 20 2).toInt dy from by (exact ⟨fun k9 hk9 => hE10 k9 hk9, fun a9 ha9 f9 => (by have h9 : a9 ≠ q8 := hfr8 (6, a9) (List.mem_append_right _ ha9); show (up3 (up3 (clr I 6 q8 0) 6 1 q8 a1) 6 2 q8 u9) 6 f9 a9 = I 6 f9 a9; exact (up3_a _ _ _ _ h9 _ _).trans ((up3_a _ _ _ _ h9 _ _).trans (clr_o _ _ _ h9 _ _))), fun j9 hj9 x9 hx9 => (by have e9 : j9 = (J 20 2).toNatClampNeg := (by have h8 := tcl (J 20 2); omega); rw [e9, hF9]; exact hfr8 x9 (List.mem_append_right _ hx9))⟩), show (∀ j : Nat, (j : Int) = (J 20 2).toInt → (up3 (up3 (clr I 6 q8 0) 6 1 q8 a1) 6 2 q8 u9) 6 1 (elt (up1 E 20 u10.2.2.1) (hv (up3 (clr P 6 q8 none) 6 0 q8 (some o1)) [30] [] u10.2.1) 20 j) = a1 ∧ (up3 (up3 (clr I 6 q8 0) 6 1 q8 a1) 6 2 q8 u9) 6 3 (elt (up1 E 20 u10.2.2.1) (hv (up3 (clr P 6 q8 none) 6 0 q8 (some o1)) [30] [] u10.2.1) 20 j) = 0 ∧ (up3 (up3 (clr I 6 q8 0) 6 1 q8 a1) 6 2 q8 u9) 6 4 (elt (up1 E 20 u10.2.2.1) (hv (up3 (clr P 6 q8 none) 6 0 q8 (some o1)) [30] [] u10.2.1) 20 j) = 0 ∧ (up3 (up3 (clr I 6 q8 0) 6 1 q8 a1) 6 2 q8 u9) 6 5 (elt (up1 E 20 u10.2.2.1) (hv (up3 (clr P 6 q8 none) 6 0 q8 (some o1)) [30] [] u10.2.1) 20 j) = 0) from by (intro j9 hj9; have e9 : j9 = (J 20 2).toNatClampNeg := (by have h8 := tcl (J 20 2); omega); rw [e9, hF9]; exact ⟨(show (up3 (clr I 6 q8 0) 6 1 q8 a1) 6 1 q8 = a1 from up3_s _ _ _ _ _), (show (clr I 6 q8 0) 6 3 q8 = 0 from clr_s _ _ _ _ _), (show (clr I 6 q8 0) 6 4 q8 = 0 from clr_s _ _ _ _ _), (show (clr I 6 q8 0) 6 5 q8 = 0 from clr_s _ _ _ _ _)⟩), show (∀ j9 : Nat, (j9 : Int) = (J 20 2).toInt → (hv (up3 (clr P 6 q8 none) 6 0 q8 (some o1)) [30] [] u10.2.1) 6 0 (elt (up1 E 20 u10.2.2.1) (hv (up3 (clr P 6 q8 none) 6 0 q8 (some o1)) [30] [] u10.2.1) 20 j9) = some (elt E P 20 a0.toNatClampNeg)) from by (intro j9 hj9; have e9 : j9 = (J 20 2).toNatClampNeg := (by have h8 := tcl (J 20 2); omega); rw [e9, hF9]; exact (show (up3 (clr P 6 q8 none) 6 0 q8 (some o1)) 6 0 q8 = some o1 from up3_s _ _ _ _ _).trans (congrArg some ho1)), show (∀ a9 : Nat, (6, a9) ∈ dy → (hv (up3 (clr P 6 q8 none) 6 0 q8 (some o1)) [30] [] u10.2.1) 6 0 a9 = P 6 0 a9) from by (intro a9 ha9; have h9 : a9 ≠ q8 := hfr8 (6, a9) (List.mem_append_right _ ha9); show (up3 (clr P 6 q8 none) 6 0 q8 (some o1)) 6 0 a9 = P 6 0 a9; exact (up3_a _ _ _ _ h9 _ _).trans (clr_o _ _ _ h9 _ _)), show (∀ j9 : Nat, (j9 : Int) = (J 20 2).toInt → ∀ i : Nat, i < 32 → (IB ((up3 (up3 (clr I 6 q8 0) 6 1 q8 a1) 6 2 q8 u9) 6 2 (elt (up1 E 20 u10.2.2.1) (hv (up3 (clr P 6 q8 none) 6 0 q8 (some o1)) [30] [] u10.2.1) 20 j9)) i = true ↔ IB (I 6 2 (elt E P 20 a0.toNatClampNeg)) i = true ∨ ((J 20 2).toInt ≤ 11 ∧ i = (J 20 2).toInt.toNat))) from by (intro j9 hj9 i9 hi9; have e9 : j9 = (J 20 2).toNatClampNeg := (by have h8 := tcl (J 20 2); omega); have h9 : o1 ≠ q8 := hfr8 (6, o1) (List.mem_append_right _ hm1); rw [e9, hF9, (show (up3 (up3 (clr I 6 q8 0) 6 1 q8 a1) 6 2 q8 u9) 6 2 q8 = u9 from up3_s _ _ _ _ _), hfc i9 hi9, show (clr I 6 q8 0) 6 2 o1 = I 6 2 o1 from clr_o _ _ _ h9 _ _, ho1])⟩))), hwr, fun x hx => hG10.1 x ((fun x hx => List.mem_append_left _ ((fun x hx => hx) x hx)) x hx), show ∀ x ∈ dy, u10.2.2.2.1 x.2 = N x.2 from by exact fun x hx => (hG10.2.2 x ((fun x hx => List.mem_append_left _ ((fun x hx => hx) x hx)) x hx)).trans ((fun _ _ => rfl) x hx)⟩ dX11_node_87
        · have c7 : 20 ≤ (J 20 2).toInt := tnlt rfl kp20 c7
          refine lv_aload_n hx hb dX11_node_56 rfl (lv_at hl 2 rfl) ?_
          refine lv_bipush (v := (-6)) hx hb dX11_node_57 (by decide) ?_
          refine ci_ C hW (runV (x := (g.2.2.1 12)) (As := [.int (-6)]) (rest := []) (T := ((J, L, I, P, E, N), sgX g ++ dy)) C hW (c_X11_refuse l g J L I P E N dy H.size (-6) hwf) mi_X11_refuse tw_411 (recv_ (T := ((J, L, I, P, E, N), sgX g ++ dy)) C hW (mx_ rfl) rfl rfl) ⟨rfl, rfl, Nat.le_of_ble_eq_true rfl, Nat.le_of_ble_eq_true rfl⟩ rfl hl.1 rfl (Nat.le_of_ble_eq_true rfl) dX11_node_59 ⟨Nat.le_of_ble_eq_true rfl, Nat.le_of_ble_eq_true rfl⟩) (fun r11 u11 H locs hp11 hW => ?_)
          have hc11 : ((r11 = (-6))) := hp11
          clear hp11
          have hr11 : r11.toInt = (-6) := by rw [hc11]; exact kn6
          have hW : WB g A s.heap H locs ((hv J [42] [] u11), L, I, P, E, N) (sgX g ++ dy) := hW
          have hJe : (hv J [42] [] u11) = hv J [42] [(20, 0), (20, 2)] (hv J [42] [] u11) := ag_hvE (J := J) (R := [42]) (F := [(20, 0), (20, 2)]) (ag_hv rfl rfl ag_rf)
          have hIe : I = hv I [6] [] I := ag_hvE (J := I) (R := [6]) (F := []) ag_rf
          have hPe : P = hv P [6, 30] [] P := ag_hvE (J := P) (R := [6, 30]) (F := []) ag_rf
          have hEe : E = hv1 E [20] E := hv1_e (R := [20]) (fun _ _ => rfl)
          have hWr : WB g A s.heap H locs (hv J [42] [(20, 0), (20, 2)] (hv J [42] [] u11), L, hv I [6] [] I, hv P [6, 30] [] P, hv1 E [20] E, N) (sgX g ++ dy) := by
            rw [← hJe, ← hIe, ← hPe, ← hEe]; exact hW
          have hwr : WXF g (hv J [42] [(20, 0), (20, 2)] (hv J [42] [] u11)) (hv P [6, 30] [] P) (hv1 E [20] E) N dy := by
            rw [← hJe, ← hPe, ← hEe]; exact hwf
          refine W.widen (k := 10) (n := 20100) (Nat.le_of_ble_eq_true rfl) (Nat.le_of_ble_eq_true rfl) ?_
          subst hQ9
          exact end_i C hr hlocks ((hv J [42] [] u11), I, P, E, N, dy) hWr ⟨by first | exact Or.inl ⟨by omega, by omega, show J 20 2 = J 20 2 from by first | rfl | (intro k hk; rfl) | (intro k; rfl), show (∀ k : Nat, elt E P 20 k = elt E P 20 k) from by first | rfl | (intro k hk; rfl) | (intro k; rfl), show I 6 = I 6 from by first | rfl | (intro k hk; rfl) | (intro k; rfl), show (∀ a : Nat, P 6 0 a = P 6 0 a) from by first | rfl | (intro k hk; rfl) | (intro k; rfl)⟩ | exact Or.inr (Or.inl ⟨by omega, by omega, show J 20 2 = J 20 2 from by first | rfl | (intro k hk; rfl) | (intro k; rfl), show (∀ k : Nat, elt E P 20 k = elt E P 20 k) from by first | rfl | (intro k hk; rfl) | (intro k; rfl), show I 6 = I 6 from by first | rfl | (intro k hk; rfl) | (intro k; rfl), show (∀ a : Nat, P 6 0 a = P 6 0 a) from by first | rfl | (intro k hk; rfl) | (intro k; rfl)⟩) | exact Or.inr (Or.inr (Or.inl ⟨by omega, by omega, show J 20 2 = J 20 2 from by first | rfl | (intro k hk; rfl) | (intro k; rfl), show (∀ k : Nat, elt E P 20 k = elt E P 20 k) from by first | rfl | (intro k hk; rfl) | (intro k; rfl), show I 6 = I 6 from by first | rfl | (intro k hk; rfl) | (intro k; rfl), show (∀ a : Nat, P 6 0 a = P 6 0 a) from by first | rfl | (intro k hk; rfl) | (intro k; rfl)⟩)) | exact Or.inr (Or.inr (Or.inr (⟨by omega, by omega, show (J 20 2).toInt = (J 20 2).toInt + 1 from by first | rfl | omega | assumption, show NOBJ I I E E P P 20 6 (J 20 2).toInt dy from by first | rfl | omega | assumption, show (∀ j : Nat, (j : Int) = (J 20 2).toInt → I 6 1 (elt E P 20 j) = a1 ∧ I 6 3 (elt E P 20 j) = 0 ∧ I 6 4 (elt E P 20 j) = 0 ∧ I 6 5 (elt E P 20 j) = 0) from by first | rfl | omega | assumption, show (∀ j9 : Nat, (j9 : Int) = (J 20 2).toInt → P 6 0 (elt E P 20 j9) = some (elt E P 20 a0.toNatClampNeg)) from by first | rfl | omega | assumption, show (∀ a9 : Nat, (6, a9) ∈ dy → P 6 0 a9 = P 6 0 a9) from by first | rfl | omega | assumption, show (∀ j9 : Nat, (j9 : Int) = (J 20 2).toInt → ∀ i : Nat, i < 32 → (IB (I 6 2 (elt E P 20 j9)) i = true ↔ IB (I 6 2 (elt E P 20 a0.toNatClampNeg)) i = true ∨ ((J 20 2).toInt ≤ 11 ∧ i = (J 20 2).toInt.toNat))) from by first | rfl | omega | assumption⟩))), hwr, fun x hx => hx, show ∀ x ∈ dy, N x.2 = N x.2 from by exact fun _ _ => rfl⟩ dX11_node_62
    · have c3 : a1.toInt < 1 := tnle kp1 rfl c3
      refine lv_aload_n hx hb dX11_node_24 rfl (lv_at hl 1 rfl) ?_
      refine lv_bipush (v := (-4)) hx hb dX11_node_25 (by decide) ?_
      refine ci_ C hW (runV (x := (g.2.2.1 12)) (As := [.int (-4)]) (rest := []) (T := ((J, L, I, P, E, N), sgX g ++ dy)) C hW (c_X11_refuse l g J L I P E N dy H.size (-4) hwf) mi_X11_refuse tw_411 (recv_ (T := ((J, L, I, P, E, N), sgX g ++ dy)) C hW (mx_ rfl) rfl rfl) ⟨rfl, rfl, Nat.le_of_ble_eq_true rfl, Nat.le_of_ble_eq_true rfl⟩ rfl hl.1 rfl (Nat.le_of_ble_eq_true rfl) dX11_node_27 ⟨Nat.le_of_ble_eq_true rfl, Nat.le_of_ble_eq_true rfl⟩) (fun r12 u12 H locs hp12 hW => ?_)
      have hc12 : ((r12 = (-4))) := hp12
      clear hp12
      have hr12 : r12.toInt = (-4) := by rw [hc12]; exact kn4
      have hW : WB g A s.heap H locs ((hv J [42] [] u12), L, I, P, E, N) (sgX g ++ dy) := hW
      have hJe : (hv J [42] [] u12) = hv J [42] [(20, 0), (20, 2)] (hv J [42] [] u12) := ag_hvE (J := J) (R := [42]) (F := [(20, 0), (20, 2)]) (ag_hv rfl rfl ag_rf)
      have hIe : I = hv I [6] [] I := ag_hvE (J := I) (R := [6]) (F := []) ag_rf
      have hPe : P = hv P [6, 30] [] P := ag_hvE (J := P) (R := [6, 30]) (F := []) ag_rf
      have hEe : E = hv1 E [20] E := hv1_e (R := [20]) (fun _ _ => rfl)
      have hWr : WB g A s.heap H locs (hv J [42] [(20, 0), (20, 2)] (hv J [42] [] u12), L, hv I [6] [] I, hv P [6, 30] [] P, hv1 E [20] E, N) (sgX g ++ dy) := by
        rw [← hJe, ← hIe, ← hPe, ← hEe]; exact hW
      have hwr : WXF g (hv J [42] [(20, 0), (20, 2)] (hv J [42] [] u12)) (hv P [6, 30] [] P) (hv1 E [20] E) N dy := by
        rw [← hJe, ← hPe, ← hEe]; exact hwf
      refine W.widen (k := 10) (n := 20100) (Nat.le_of_ble_eq_true rfl) (Nat.le_of_ble_eq_true rfl) ?_
      subst hQ9
      exact end_i C hr hlocks ((hv J [42] [] u12), I, P, E, N, dy) hWr ⟨by first | exact Or.inl ⟨by omega, by omega, show J 20 2 = J 20 2 from by first | rfl | (intro k hk; rfl) | (intro k; rfl), show (∀ k : Nat, elt E P 20 k = elt E P 20 k) from by first | rfl | (intro k hk; rfl) | (intro k; rfl), show I 6 = I 6 from by first | rfl | (intro k hk; rfl) | (intro k; rfl), show (∀ a : Nat, P 6 0 a = P 6 0 a) from by first | rfl | (intro k hk; rfl) | (intro k; rfl)⟩ | exact Or.inr (Or.inl ⟨by omega, by omega, show J 20 2 = J 20 2 from by first | rfl | (intro k hk; rfl) | (intro k; rfl), show (∀ k : Nat, elt E P 20 k = elt E P 20 k) from by first | rfl | (intro k hk; rfl) | (intro k; rfl), show I 6 = I 6 from by first | rfl | (intro k hk; rfl) | (intro k; rfl), show (∀ a : Nat, P 6 0 a = P 6 0 a) from by first | rfl | (intro k hk; rfl) | (intro k; rfl)⟩) | exact Or.inr (Or.inr (Or.inl ⟨by omega, by omega, show J 20 2 = J 20 2 from by first | rfl | (intro k hk; rfl) | (intro k; rfl), show (∀ k : Nat, elt E P 20 k = elt E P 20 k) from by first | rfl | (intro k hk; rfl) | (intro k; rfl), show I 6 = I 6 from by first | rfl | (intro k hk; rfl) | (intro k; rfl), show (∀ a : Nat, P 6 0 a = P 6 0 a) from by first | rfl | (intro k hk; rfl) | (intro k; rfl)⟩)) | exact Or.inr (Or.inr (Or.inr (⟨by omega, by omega, show (J 20 2).toInt = (J 20 2).toInt + 1 from by first | rfl | omega | assumption, show NOBJ I I E E P P 20 6 (J 20 2).toInt dy from by first | rfl | omega | assumption, show (∀ j : Nat, (j : Int) = (J 20 2).toInt → I 6 1 (elt E P 20 j) = a1 ∧ I 6 3 (elt E P 20 j) = 0 ∧ I 6 4 (elt E P 20 j) = 0 ∧ I 6 5 (elt E P 20 j) = 0) from by first | rfl | omega | assumption, show (∀ j9 : Nat, (j9 : Int) = (J 20 2).toInt → P 6 0 (elt E P 20 j9) = some (elt E P 20 a0.toNatClampNeg)) from by first | rfl | omega | assumption, show (∀ a9 : Nat, (6, a9) ∈ dy → P 6 0 a9 = P 6 0 a9) from by first | rfl | omega | assumption, show (∀ j9 : Nat, (j9 : Int) = (J 20 2).toInt → ∀ i : Nat, i < 32 → (IB (I 6 2 (elt E P 20 j9)) i = true ↔ IB (I 6 2 (elt E P 20 a0.toNatClampNeg)) i = true ∨ ((J 20 2).toInt ≤ 11 ∧ i = (J 20 2).toInt.toNat))) from by first | rfl | omega | assumption⟩))), hwr, fun x hx => hx, show ∀ x ∈ dy, N x.2 = N x.2 from by exact fun _ _ => rfl⟩ dX11_node_30
