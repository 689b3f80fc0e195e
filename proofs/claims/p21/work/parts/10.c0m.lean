/-- the news: when they came in, when they were printed -/
def NWR (I : Nat → Nat → Nat → Int32) (E : Nat → Option Nat) (P : Nat → Nat → Nat → Option Nat) (cm pr : Nat → Int32) (n : Int) : Prop := ∀ k : Nat, (k : Int) < n → I 5 0 (elt E P 26 k) = cm k ∧ ((I 5 1 (elt E P 26 k) = pr k ∧ 0 ≤ (pr k).toInt) ∨ ((I 5 1 (elt E P 26 k)).toInt = -1 ∧ (pr k).toInt < 0))
/-- the first minute that was read of them -/
def FRR (I : Nat → Nat → Nat → Int32) (E : Nat → Option Nat) (P : Nat → Nat → Nat → Option Nat) (K O : Nat → Int32) (n now : Int) : Prop := ∀ k : Nat, (k : Int) < n → ((I 5 2 (elt E P 26 k)).toInt = -1 ∧ ∀ m : Nat, (m : Int) < now → (K m).toInt = 0 → ¬ (O m).toInt = k) ∨ ∃ f : Nat, (I 5 2 (elt E P 26 k)).toInt = f ∧ (f : Int) < now ∧ (K f).toInt = 0 ∧ (O f).toInt = k ∧ ∀ m : Nat, m < f → (K m).toInt = 0 → ¬ (O m).toInt = k
def OFB (K O : Nat → Int32) (now n : Int) : Prop := ∀ m : Nat, (m : Int) < now → (K m).toInt = 0 → (O m).toInt < n
section NEWS
variable {I I' : Nat → Nat → Nat → Int32} {E E' : Nat → Option Nat} {P P' : Nat → Nat → Nat → Option Nat} {n n' now now' : Int} {dy : List (Nat × Nat)} {cm pr cm' pr' K O K' O' : Nat → Int32} {G : Nat → Nat → Int32}
end NEWS
set_option maxHeartbeats 4000000 in
set_option maxRecDepth 100000 in
theorem c_X11_printed_e (l : Launch) (g : gG) (J : Nat → Nat → Int32) (L : Nat → Nat → Int64) (I : Nat → Nat → Nat → Int32) (P : Nat → Nat → Nat → Option Nat) (E : Nat → Option Nat) (N : Nat → Nat) (dy : List (Nat × Nat)) (sz : Nat) (a0 : Int32) (a1 : Int32) (hwf : WXF g J P E N dy) : Met l yX11_printed (WS yX11_printed cX11_printed 4 (some .int)) (RM (5) 0 0) (PC g [.ref (g.2.2.1 12), .int a0, .int a1] ((J, L, I, P, E, N), sgX g ++ dy) sz) (va_Qi (fun (r : Int32) (u : (Nat → Nat → Int32) × (Nat → Nat → Nat → Int32)) => ((r.toInt = (-1) ∧ (¬ (0 ≤ a0.toInt ∧ a0.toInt < (J 26 2).toInt)) ∧ u.2 5 1 = I 5 1) ∨ (r.toInt = (-3) ∧ (0 ≤ a0.toInt ∧ a0.toInt < (J 26 2).toInt ∧ ¬ (I 5 1 (elt E P 26 a0.toNatClampNeg)).toInt = -1) ∧ u.2 5 1 = I 5 1) ∨ (r.toInt = (-4) ∧ (0 ≤ a0.toInt ∧ a0.toInt < (J 26 2).toInt ∧ (I 5 1 (elt E P 26 a0.toNatClampNeg)).toInt = -1 ∧ a1.toInt < (J 3 1).toInt) ∧ u.2 5 1 = I 5 1) ∨ (r.toInt = (-6) ∧ (0 ≤ a0.toInt ∧ a0.toInt < (J 26 2).toInt ∧ (I 5 1 (elt E P 26 a0.toNatClampNeg)).toInt = -1 ∧ (J 3 1).toInt ≤ a1.toInt ∧ 9999 < a1.toInt) ∧ u.2 5 1 = I 5 1) ∨ (r.toInt = 1 ∧ (0 ≤ a0.toInt ∧ a0.toInt < (J 26 2).toInt ∧ (I 5 1 (elt E P 26 a0.toNatClampNeg)).toInt = -1 ∧ (J 3 1).toInt ≤ a1.toInt ∧ a1.toInt ≤ 9999) ∧ (∀ b : Nat, b ≠ elt E P 26 a0.toNatClampNeg → u.2 5 1 b = I 5 1 b) ∧ u.2 5 1 (elt E P 26 a0.toNatClampNeg) = a1))) (fun u t => at_ g (FR g ((J, L, I, P, E, N), sgX g ++ dy) sz) (((hv J [42] [] u.1), L, (hv I [] [(5, 1)] u.2), P, E, N), sgX g ++ dy) t) (FR g ((J, L, I, P, E, N), sgX g ++ dy) sz)) 0 0 (FR g ((J, L, I, P, E, N), sgX g ++ dy) sz) := by
  refine ent (by decide +kernel) (Nat.le_of_ble_eq_true rfl) ?_
  intro p e s m below meth c ls hsz C hW hr hlocks hname hl
  generalize FR g ((J, L, I, P, E, N), sgX g ++ dy) sz = A at C hW ⊢
  generalize hQ9 : (va_Qi (fun (r : Int32) (u : (Nat → Nat → Int32) × (Nat → Nat → Nat → Int32)) => ((r.toInt = (-1) ∧ (¬ (0 ≤ a0.toInt ∧ a0.toInt < (J 26 2).toInt)) ∧ u.2 5 1 = I 5 1) ∨ (r.toInt = (-3) ∧ (0 ≤ a0.toInt ∧ a0.toInt < (J 26 2).toInt ∧ ¬ (I 5 1 (elt E P 26 a0.toNatClampNeg)).toInt = -1) ∧ u.2 5 1 = I 5 1) ∨ (r.toInt = (-4) ∧ (0 ≤ a0.toInt ∧ a0.toInt < (J 26 2).toInt ∧ (I 5 1 (elt E P 26 a0.toNatClampNeg)).toInt = -1 ∧ a1.toInt < (J 3 1).toInt) ∧ u.2 5 1 = I 5 1) ∨ (r.toInt = (-6) ∧ (0 ≤ a0.toInt ∧ a0.toInt < (J 26 2).toInt ∧ (I 5 1 (elt E P 26 a0.toNatClampNeg)).toInt = -1 ∧ (J 3 1).toInt ≤ a1.toInt ∧ 9999 < a1.toInt) ∧ u.2 5 1 = I 5 1) ∨ (r.toInt = 1 ∧ (0 ≤ a0.toInt ∧ a0.toInt < (J 26 2).toInt ∧ (I 5 1 (elt E P 26 a0.toNatClampNeg)).toInt = -1 ∧ (J 3 1).toInt ≤ a1.toInt ∧ a1.toInt ≤ 9999) ∧ (∀ b : Nat, b ≠ elt E P 26 a0.toNatClampNeg → u.2 5 1 b = I 5 1 b) ∧ u.2 5 1 (elt E P 26 a0.toNatClampNeg) = a1))) (fun u t => at_ g A (((hv J [42] [] u.1), L, (hv I [] [(5, 1)] u.2), P, E, N), sgX g ++ dy) t) A) = Q9
  have hx := C.1.1
  have hb := C.1.2.1
  have hts := C.1.2.2.2.2
  have hl : lv_has ls 4 [(0, .ref (g.2.2.1 12)), (1, .int a0), (2, .int a1)] := hl
  obtain ⟨H, hH⟩ : ∃ H : Heap, H = s.heap := ⟨_, rfl⟩
  obtain ⟨locs, hlocs⟩ : ∃ q : List Loc, q = [] := ⟨_, rfl⟩
  have hW : WB g A s.heap H locs (J, L, I, P, E, N) (sgX g ++ dy) := by rw [hH, hlocs]; exact hW
  refine start_ hH hlocs ?_
  refine lv_aload_n hx hb dX11_printed_0 rfl (lv_at hl 0 rfl) ?_
  refine lv_iload_n hx hb dX11_printed_1 rfl (lv_at hl 1 rfl) ?_
  refine cq_ C hW (runV (x := (g.2.2.1 12)) (As := [.int a0]) (rest := []) (T := ((J, L, I, P, E, N), sgX g ++ dy)) C hW (c_X11_newsOf_e l g J L I P E N dy H.size a0 hwf) mi_X11_newsOf tw_631 (recv_ (T := ((J, L, I, P, E, N), sgX g ++ dy)) C hW (mx_ rfl) rfl rfl) ⟨rfl, rfl, Nat.le_of_ble_eq_true rfl, Nat.le_of_ble_eq_true rfl⟩ rfl hl.1 rfl (Nat.le_of_ble_eq_true rfl) dX11_printed_2 ⟨Nat.le_of_ble_eq_true rfl, Nat.le_of_ble_eq_true rfl⟩) (fun q1 u1 H locs hp1 hW => ?_)
  have hq1 : ((q1 = none ∧ (¬ (0 ≤ a0.toInt ∧ a0.toInt < (J 26 2).toInt))) ∨ (q1 = some (elt E P 26 a0.toNatClampNeg) ∧ (0 ≤ a0.toInt ∧ a0.toInt < (J 26 2).toInt))) := hp1
  clear hp1
  have hW : WB g A s.heap H locs (J, L, I, P, E, N) (sgX g ++ dy) := hW
  rcases hq1 with ⟨rfl, hn1⟩ | ⟨rfl, hs1⟩
  · refine lv_asv (v' := .null) rfl ?_
    refine lv_astore_nN (lv' := [(3, .null), (0, .ref (g.2.2.1 12)), (1, .int a0), (2, .int a1)]) hx hb dX11_printed_5 rfl hl (by decide) rfl (fun ls hl => ?_)
    refine lv_aload_nN hx hb dX11_printed_6 rfl (lv_at hl 0 rfl) ?_
    refine lv_ifnonnullN hx hb dX11_printed_7 ?_
    refine lv_aload_n hx hb dX11_printed_10 rfl (lv_at hl 1 rfl) ?_
    refine lv_iconst (v := (-1)) hx hb dX11_printed_11 (by decide) ?_
    refine ci_ C hW (runV (x := (g.2.2.1 12)) (As := [.int (-1)]) (rest := []) (T := ((J, L, I, P, E, N), sgX g ++ dy)) C hW (c_X11_refuse l g J L I P E N dy H.size (-1) hwf) mi_X11_refuse tw_411 (recv_ (T := ((J, L, I, P, E, N), sgX g ++ dy)) C hW (mx_ rfl) rfl rfl) ⟨rfl, rfl, Nat.le_of_ble_eq_true rfl, Nat.le_of_ble_eq_true rfl⟩ rfl hl.1 rfl (Nat.le_of_ble_eq_true rfl) dX11_printed_12 ⟨Nat.le_of_ble_eq_true rfl, Nat.le_of_ble_eq_true rfl⟩) (fun r2 u2 H locs hp2 hW => ?_)
    have hc2 : ((r2 = (-1))) := hp2
    clear hp2
    have hr2 : r2.toInt = (-1) := by rw [hc2]; exact kn1
    have hW : WB g A s.heap H locs ((hv J [42] [] u2), L, I, P, E, N) (sgX g ++ dy) := hW
    have hWr : WB g A s.heap H locs ((hv J [42] [] (hv J [42] [] u2)), L, (hv I [] [(5, 1)] I), P, E, N) (sgX g ++ dy) := by
      rw [← ag_hvE (J := J) (R := [42]) (F := []) (ag_hv rfl rfl ag_rf)]
      rw [← ag_hvE (J := I) (R := []) (F := [(5, 1)]) ag_rf]
      exact hW
    subst hQ9
    exact end_i C hr hlocks ((hv J [42] [] u2), I) hWr (by first | exact Or.inl ⟨by omega, by omega, show I 5 1 = I 5 1 from by first | rfl | assumption⟩) dX11_printed_15
  · skip
    obtain ⟨o1, ho1⟩ : ∃ z : Nat, z = elt E P 26 a0.toNatClampNeg := ⟨_, rfl⟩
    have hm1 : (5, o1) ∈ dy := by rw [ho1]; exact (lw_mem (er := 5) hwf.2.1.2.2.1 (show (a0.toNatClampNeg : Int) < (J 26 2).toInt from by have := tcl a0; omega))
    have hnq1 : (I 5 1 o1).toInt = (I 5 1 (elt E P 26 a0.toNatClampNeg)).toInt ∧ (I 5 2 o1).toInt = (I 5 2 (elt E P 26 a0.toNatClampNeg)).toInt := by rw [ho1]; exact ⟨rfl, rfl⟩
    refine lv_asv (v' := .ref o1) (by rw [ho1]; rfl) ?_
    refine lv_astore_n (lv' := [(3, .ref o1), (0, .ref (g.2.2.1 12)), (1, .int a0), (2, .int a1)]) hx hb dX11_printed_5 rfl hl (by decide) rfl (fun ls hl => ?_)
    refine lv_aload_n hx hb dX11_printed_6 rfl (lv_at hl 0 rfl) ?_
    refine lv_ifnonnull (tgt := 16) hx hb dX11_printed_7 (by decide) ?_
    refine lv_aload_n hx hb dX11_printed_16 rfl (lv_at hl 0 rfl) ?_
    refine rg_5_1 C hW (List.mem_append_right _ hm1) tw_945 dX11_printed_17 ?_
    refine lv_topi (fun x3 (e3 : x3 = I 5 1 o1) => ?_)
    have t3 : x3.toInt = (I 5 1 o1).toInt := by rw [e3]
    refine lv_iconst (v := (-1)) hx hb dX11_printed_20 (by decide) ?_
    refine lv_icmp_eq (tgt := 31) hx hb dX11_printed_21 (by decide) (fun c4 => ?_) (fun c4 => ?_)
    · have c4 : x3.toInt = (-1) := teq rfl kn1 c4
      refine lv_iload_n hx hb dX11_printed_31 rfl (lv_at hl 3 rfl) ?_
      refine lv_aload_n hx hb dX11_printed_32 rfl (lv_at hl 1 rfl) ?_
      refine rg_12_1 C hW (mx_ rfl) tw_365 dX11_printed_33 ?_
      refine rg_3_1 C hW (mx_ rfl) tw_278 dX11_printed_36 ?_
      refine lv_icmp_ge (tgt := 49) hx hb dX11_printed_39 (by decide) (fun c5 => ?_) (fun c5 => ?_)
      · have c5 : (J 3 1).toInt ≤ a1.toInt := tle rfl rfl c5
        refine lv_iload_n hx hb dX11_printed_49 rfl (lv_at hl 3 rfl) ?_
        refine lv_sipush (v := 9999) hx hb dX11_printed_50 (by decide) ?_
        refine lv_icmp_le (tgt := 63) hx hb dX11_printed_53 (by decide) (fun c6 => ?_) (fun c6 => ?_)
        · have c6 : a1.toInt ≤ 9999 := tle rfl kp9999 c6
          refine lv_aload_n hx hb dX11_printed_63 rfl (lv_at hl 0 rfl) ?_
          refine lv_iload_n hx hb dX11_printed_64 rfl (lv_at hl 3 rfl) ?_
          refine rp_5_1 C hW (List.mem_append_right _ hm1) tw_945 dX11_printed_65 (fun H locs hW => ?_)
          refine lv_iconst (v := 1) hx hb dX11_printed_68 (by decide) ?_
          have hWr : WB g A s.heap H locs ((hv J [42] [] J), L, (hv I [] [(5, 1)] (up3 I 5 1 o1 a1)), P, E, N) (sgX g ++ dy) := by
            rw [← ag_hvE (J := J) (R := [42]) (F := []) ag_rf]
            rw [← ag_hvE (J := I) (R := []) (F := [(5, 1)]) (ag_up3 (Or.inr rfl) ag_rf)]
            exact hW
          subst hQ9
          exact end_i C hr hlocks (J, (up3 I 5 1 o1 a1)) hWr (by first | exact Or.inr (Or.inr (Or.inr (Or.inr (⟨by decide, by omega, show (∀ b : Nat, b ≠ elt E P 26 a0.toNatClampNeg → (up3 I 5 1 o1 a1) 5 1 b = I 5 1 b) from by first | (rw [← ho1]; intro b hb; exact up3_a _ _ _ _ hb _ _) | (rw [← ho1]; exact up3_s _ _ _ _ _), show (up3 I 5 1 o1 a1) 5 1 (elt E P 26 a0.toNatClampNeg) = a1 from by first | (rw [← ho1]; intro b hb; exact up3_a _ _ _ _ hb _ _) | (rw [← ho1]; exact up3_s _ _ _ _ _)⟩))))) dX11_printed_69
        · have c6 : 9999 < a1.toInt := tnle rfl kp9999 c6
          refine lv_aload_n hx hb dX11_printed_56 rfl (lv_at hl 1 rfl) ?_
          refine lv_bipush (v := (-6)) hx hb dX11_printed_57 (by decide) ?_
          refine ci_ C hW (runV (x := (g.2.2.1 12)) (As := [.int (-6)]) (rest := []) (T := ((J, L, I, P, E, N), sgX g ++ dy)) C hW (c_X11_refuse l g J L I P E N dy H.size (-6) hwf) mi_X11_refuse tw_411 (recv_ (T := ((J, L, I, P, E, N), sgX g ++ dy)) C hW (mx_ rfl) rfl rfl) ⟨rfl, rfl, Nat.le_of_ble_eq_true rfl, Nat.le_of_ble_eq_true rfl⟩ rfl hl.1 rfl (Nat.le_of_ble_eq_true rfl) dX11_printed_59 ⟨Nat.le_of_ble_eq_true rfl, Nat.le_of_ble_eq_true rfl⟩) (fun r7 u7 H locs hp7 hW => ?_)
          have hc7 : ((r7 = (-6))) := hp7
          clear hp7
          have hr7 : r7.toInt = (-6) := by rw [hc7]; exact kn6
          have hW : WB g A s.heap H locs ((hv J [42] [] u7), L, I, P, E, N) (sgX g ++ dy) := hW
          have hWr : WB g A s.heap H locs ((hv J [42] [] (hv J [42] [] u7)), L, (hv I [] [(5, 1)] I), P, E, N) (sgX g ++ dy) := by
            rw [← ag_hvE (J := J) (R := [42]) (F := []) (ag_hv rfl rfl ag_rf)]
            rw [← ag_hvE (J := I) (R := []) (F := [(5, 1)]) ag_rf]
            exact hW
          subst hQ9
          exact end_i C hr hlocks ((hv J [42] [] u7), I) hWr (by first | exact Or.inr (Or.inr (Or.inr (Or.inl ⟨by omega, by omega, show I 5 1 = I 5 1 from by first | rfl | assumption⟩)))) dX11_printed_62
      · have c5 : a1.toInt < (J 3 1).toInt := tnle rfl rfl c5
        refine lv_aload_n hx hb dX11_printed_42 rfl (lv_at hl 1 rfl) ?_
        refine lv_bipush (v := (-4)) hx hb dX11_printed_43 (by decide) ?_
        refine ci_ C hW (runV (x := (g.2.2.1 12)) (As := [.int (-4)]) (rest := []) (T := ((J, L, I, P, E, N), sgX g ++ dy)) C hW (c_X11_refuse l g J L I P E N dy H.size (-4) hwf) mi_X11_refuse tw_411 (recv_ (T := ((J, L, I, P, E, N), sgX g ++ dy)) C hW (mx_ rfl) rfl rfl) ⟨rfl, rfl, Nat.le_of_ble_eq_true rfl, Nat.le_of_ble_eq_true rfl⟩ rfl hl.1 rfl (Nat.le_of_ble_eq_true rfl) dX11_printed_45 ⟨Nat.le_of_ble_eq_true rfl, Nat.le_of_ble_eq_true rfl⟩) (fun r8 u8 H locs hp8 hW => ?_)
        have hc8 : ((r8 = (-4))) := hp8
        clear hp8
        have hr8 : r8.toInt = (-4) := by rw [hc8]; exact kn4
        have hW : WB g A s.heap H locs ((hv J [42] [] u8), L, I, P, E, N) (sgX g ++ dy) := hW
        have hWr : WB g A s.heap H locs ((hv J [42] [] (hv J [42] [] u8)), L, (hv I [] [(5, 1)] I), P, E, N) (sgX g ++ dy) := by
          rw [← ag_hvE (J := J) (R := [42]) (F := []) (ag_hv rfl rfl ag_rf)]
          rw [← ag_hvE (J := I) (R := []) (F := [(5, 1)]) ag_rf]
          exact hW
        subst hQ9
        exact end_i C hr hlocks ((hv J [42] [] u8), I) hWr (by first | exact Or.inr (Or.inr (Or.inl ⟨by omega, by omega, show I 5 1 = I 5 1 from by first | rfl | assumption⟩))) dX11_printed_48
    · have c4 : ¬ x3.toInt = (-1) := tne rfl kn1 c4
      refine lv_aload_n hx hb dX11_printed_24 rfl (lv_at hl 1 rfl) ?_
      refine lv_bipush (v := (-3)) hx hb dX11_printed_25 (by decide) ?_
      refine ci_ C hW (runV (x := (g.2.2.1 12)) (As := [.int (-3)]) (rest := []) (T := ((J, L, I, P, E, N), sgX g ++ dy)) C hW (c_X11_refuse l g J L I P E N dy H.size (-3) hwf) mi_X11_refuse tw_411 (recv_ (T := ((J, L, I, P, E, N), sgX g ++ dy)) C hW (mx_ rfl) rfl rfl) ⟨rfl, rfl, Nat.le_of_ble_eq_true rfl, Nat.le_of_ble_eq_true rfl⟩ rfl hl.1 rfl (Nat.le_of_ble_eq_true rfl) dX11_printed_27 ⟨Nat.le_of_ble_eq_true rfl, Nat.le_of_ble_eq_true rfl⟩) (fun r9 u9 H locs hp9 hW => ?_)
      have hc9 : ((r9 = (-3))) := hp9
      clear hp9
      have hr9 : r9.toInt = (-3) := by rw [hc9]; exact kn3
      have hW : WB g A s.heap H locs ((hv J [42] [] u9), L, I, P, E, N) (sgX g ++ dy) := hW
      have hWr : WB g A s.heap H locs ((hv J [42] [] (hv J [42] [] u9)), L, (hv I [] [(5, 1)] I), P, E, N) (sgX g ++ dy) := by
        rw [← ag_hvE (J := J) (R := [42]) (F := []) (ag_hv rfl rfl ag_rf)]
        rw [← ag_hvE (J := I) (R := []) (F := [(5, 1)]) ag_rf]
        exact hW
      subst hQ9
      exact end_i C hr hlocks ((hv J [42] [] u9), I) hWr (by first | exact Or.inr (Or.inl ⟨by omega, by omega, show I 5 1 = I 5 1 from by first | rfl | assumption⟩)) dX11_printed_30

set_option maxHeartbeats 4000000 in
set_option maxRecDepth 100000 in
theorem c_X11_readRefusal_e (l : Launch) (g : gG) (J : Nat → Nat → Int32) (L : Nat → Nat → Int64) (I : Nat → Nat → Nat → Int32) (P : Nat → Nat → Nat → Option Nat) (E : Nat → Option Nat) (N : Nat → Nat) (dy : List (Nat × Nat)) (sz : Nat) (a0 : Nat) (hm0 : (9, a0) ∈ dy)  : Met l yX11_readRefusal (WS yX11_readRefusal cX11_readRefusal 1 (some .int)) (RM (1) 0 0) (PC g [.ref a0] ((J, L, I, P, E, N), sgX g ++ dy) sz) (va_Qi (fun (r : Int32) (u : Unit) => ((r.toInt = 0 ∧ ((I 9 2 a0).toInt = 0)) ∨ (r.toInt = (-3) ∧ (¬ (I 9 2 a0).toInt = 0)))) (fun u t => at_ g (FR g ((J, L, I, P, E, N), sgX g ++ dy) sz) ((J, L, I, P, E, N), sgX g ++ dy) t) (FR g ((J, L, I, P, E, N), sgX g ++ dy) sz)) 0 0 (FR g ((J, L, I, P, E, N), sgX g ++ dy) sz) := by
  refine ent (by decide +kernel) (Nat.le_of_ble_eq_true rfl) ?_
  intro p e s m below meth c ls hsz C hW hr hlocks hname hl
  generalize FR g ((J, L, I, P, E, N), sgX g ++ dy) sz = A at C hW ⊢
  generalize hQ9 : (va_Qi (fun (r : Int32) (u : Unit) => ((r.toInt = 0 ∧ ((I 9 2 a0).toInt = 0)) ∨ (r.toInt = (-3) ∧ (¬ (I 9 2 a0).toInt = 0)))) (fun u t => at_ g A ((J, L, I, P, E, N), sgX g ++ dy) t) A) = Q9
  have hx := C.1.1
  have hb := C.1.2.1
  have hts := C.1.2.2.2.2
  have hl : lv_has ls 1 [(0, .ref a0)] := hl
  obtain ⟨H, hH⟩ : ∃ H : Heap, H = s.heap := ⟨_, rfl⟩
  obtain ⟨locs, hlocs⟩ : ∃ q : List Loc, q = [] := ⟨_, rfl⟩
  have hW : WB g A s.heap H locs (J, L, I, P, E, N) (sgX g ++ dy) := by rw [hH, hlocs]; exact hW
  refine start_ hH hlocs ?_
  refine lv_aload_n hx hb dX11_readRefusal_0 rfl (lv_at hl 0 rfl) ?_
  refine lv_ifnonnull (tgt := 6) hx hb dX11_readRefusal_1 (by decide) ?_
  refine lv_aload_n hx hb dX11_readRefusal_6 rfl (lv_at hl 0 rfl) ?_
  refine rg_9_2 C hW (List.mem_append_right _ hm0) tw_429 dX11_readRefusal_7 ?_
  refine lv_topi (fun x1 (e1 : x1 = I 9 2 a0) => ?_)
  have t1 : x1.toInt = (I 9 2 a0).toInt := by rw [e1]
  refine lv_if_ne (tgt := 17) hx hb dX11_readRefusal_10 (by decide) (fun c2 => ?_) (fun c2 => ?_)
  · have c2 : ¬ x1.toInt = 0 := tne rfl kp0 c2
    refine lv_bipush (v := (-3)) hx hb dX11_readRefusal_17 (by decide) ?_
    subst hQ9
    exact end_i C hr hlocks () hW (by first | exact Or.inr (⟨by decide, by omega⟩)) dX11_readRefusal_19
  · have c2 : x1.toInt = 0 := teq rfl kp0 c2
    refine lv_iconst (v := 0) hx hb dX11_readRefusal_13 (by decide) ?_
    refine lv_goto (tgt := 19) hx hb dX11_readRefusal_14 (by decide) ?_
    subst hQ9
    exact end_i C hr hlocks () hW (by first | exact Or.inl ⟨by decide, by omega⟩) dX11_readRefusal_19

set_option maxHeartbeats 4000000 in
set_option maxRecDepth 100000 in
theorem c_X11_readRefusal_n_e (l : Launch) (g : gG) (J : Nat → Nat → Int32) (L : Nat → Nat → Int64) (I : Nat → Nat → Nat → Int32) (P : Nat → Nat → Nat → Option Nat) (E : Nat → Option Nat) (N : Nat → Nat) (dy : List (Nat × Nat)) (sz : Nat)   : Met l yX11_readRefusal (WS yX11_readRefusal cX11_readRefusal 1 (some .int)) (RM (1) 0 0) (PC g [.null] ((J, L, I, P, E, N), sgX g ++ dy) sz) (va_Qi (fun (r : Int32) (u : Unit) => ((r.toInt = (-1)))) (fun u t => at_ g (FR g ((J, L, I, P, E, N), sgX g ++ dy) sz) ((J, L, I, P, E, N), sgX g ++ dy) t) (FR g ((J, L, I, P, E, N), sgX g ++ dy) sz)) 0 0 (FR g ((J, L, I, P, E, N), sgX g ++ dy) sz) := by
  refine ent (by decide +kernel) (Nat.le_of_ble_eq_true rfl) ?_
  intro p e s m below meth c ls hsz C hW hr hlocks hname hl
  generalize FR g ((J, L, I, P, E, N), sgX g ++ dy) sz = A at C hW ⊢
  generalize hQ9 : (va_Qi (fun (r : Int32) (u : Unit) => ((r.toInt = (-1)))) (fun u t => at_ g A ((J, L, I, P, E, N), sgX g ++ dy) t) A) = Q9
  have hx := C.1.1
  have hb := C.1.2.1
  have hts := C.1.2.2.2.2
  have hl : lv_has ls 1 [(0, .null)] := hl
  obtain ⟨H, hH⟩ : ∃ H : Heap, H = s.heap := ⟨_, rfl⟩
  obtain ⟨locs, hlocs⟩ : ∃ q : List Loc, q = [] := ⟨_, rfl⟩
  have hW : WB g A s.heap H locs (J, L, I, P, E, N) (sgX g ++ dy) := by rw [hH, hlocs]; exact hW
  refine start_ hH hlocs ?_
  refine lv_aload_nN hx hb dX11_readRefusal_0 rfl (lv_at hl 0 rfl) ?_
  refine lv_ifnonnullN hx hb dX11_readRefusal_1 ?_
  refine lv_iconst (v := (-1)) hx hb dX11_readRefusal_4 (by decide) ?_
  subst hQ9
  exact end_i C hr hlocks () hW (by first | exact (by decide)) dX11_readRefusal_5

set_option maxHeartbeats 4000000 in
set_option maxRecDepth 100000 in
theorem c_X4_isFreshIn_e (l : Launch) (g : gG) (J : Nat → Nat → Int32) (L : Nat → Nat → Int64) (I : Nat → Nat → Nat → Int32) (P : Nat → Nat → Nat → Option Nat) (E : Nat → Option Nat) (N : Nat → Nat) (dy : List (Nat × Nat)) (sz : Nat) (o : Nat) (hmo : (5, o) ∈ dy) (a0 : Int32) (hwf : WXF g J P E N dy) : Met l yX4_isFreshIn (WS yX4_isFreshIn cX4_isFreshIn 2 (some .boolean)) (RM (1) 0 0) (PC g [.ref o, .int a0] ((J, L, I, P, E, N), sgX g ++ dy) sz) (va_Qi (fun (r : Int32) (u : Unit) => ((r.toInt = 1 ∧ (((I 5 2 o).toInt = a0.toInt ∧ ((I 5 1 o).toInt = -1 ∨ a0.toInt < (I 5 1 o).toInt)))) ∨ (r.toInt = 0 ∧ (¬ ((I 5 2 o).toInt = a0.toInt ∧ ((I 5 1 o).toInt = -1 ∨ a0.toInt < (I 5 1 o).toInt)))))) (fun u t => at_ g (FR g ((J, L, I, P, E, N), sgX g ++ dy) sz) ((J, L, I, P, E, N), sgX g ++ dy) t) (FR g ((J, L, I, P, E, N), sgX g ++ dy) sz)) 0 0 (FR g ((J, L, I, P, E, N), sgX g ++ dy) sz) := by
  refine ent (by decide +kernel) (Nat.le_of_ble_eq_true rfl) ?_
  intro p e s m below meth c ls hsz C hW hr hlocks hname hl
  generalize FR g ((J, L, I, P, E, N), sgX g ++ dy) sz = A at C hW ⊢
  generalize hQ9 : (va_Qi (fun (r : Int32) (u : Unit) => ((r.toInt = 1 ∧ (((I 5 2 o).toInt = a0.toInt ∧ ((I 5 1 o).toInt = -1 ∨ a0.toInt < (I 5 1 o).toInt)))) ∨ (r.toInt = 0 ∧ (¬ ((I 5 2 o).toInt = a0.toInt ∧ ((I 5 1 o).toInt = -1 ∨ a0.toInt < (I 5 1 o).toInt)))))) (fun u t => at_ g A ((J, L, I, P, E, N), sgX g ++ dy) t) A) = Q9
  have hx := C.1.1
  have hb := C.1.2.1
  have hts := C.1.2.2.2.2
  have hl : lv_has ls 2 [(0, .ref o), (1, .int a0)] := hl
  obtain ⟨H, hH⟩ : ∃ H : Heap, H = s.heap := ⟨_, rfl⟩
  obtain ⟨locs, hlocs⟩ : ∃ q : List Loc, q = [] := ⟨_, rfl⟩
  have hW : WB g A s.heap H locs (J, L, I, P, E, N) (sgX g ++ dy) := by rw [hH, hlocs]; exact hW
  refine start_ hH hlocs ?_
  refine lv_aload_n hx hb dX4_isFreshIn_0 rfl (lv_at hl 0 rfl) ?_
  refine rg_5_2 C hW (List.mem_append_right _ hmo) tw_946 dX4_isFreshIn_1 ?_
  refine lv_topi (fun x1 (e1 : x1 = I 5 2 o) => ?_)
  have t1 : x1.toInt = (I 5 2 o).toInt := by rw [e1]
  refine lv_iload_n hx hb dX4_isFreshIn_4 rfl (lv_at hl 1 rfl) ?_
  refine lv_icmp_ne (tgt := 28) hx hb dX4_isFreshIn_5 (by decide) (fun c2 => ?_) (fun c2 => ?_)
  · have c2 : ¬ x1.toInt = a0.toInt := tne rfl rfl c2
    refine lv_iconst (v := 0) hx hb dX4_isFreshIn_28 (by decide) ?_
    subst hQ9
    exact end_z C hr hlocks (by decide) () hW (by first | exact Or.inr (⟨by decide, by omega⟩)) dX4_isFreshIn_29
  · have c2 : x1.toInt = a0.toInt := teq rfl rfl c2
    refine lv_aload_n hx hb dX4_isFreshIn_8 rfl (lv_at hl 0 rfl) ?_
    refine rg_5_1 C hW (List.mem_append_right _ hmo) tw_944 dX4_isFreshIn_9 ?_
    refine lv_topi (fun x3 (e3 : x3 = I 5 1 o) => ?_)
    have t3 : x3.toInt = (I 5 1 o).toInt := by rw [e3]
    refine lv_iconst (v := (-1)) hx hb dX4_isFreshIn_12 (by decide) ?_
    refine lv_icmp_eq (tgt := 24) hx hb dX4_isFreshIn_13 (by decide) (fun c4 => ?_) (fun c4 => ?_)
    · have c4 : x3.toInt = (-1) := teq rfl kn1 c4
      refine lv_iconst (v := 1) hx hb dX4_isFreshIn_24 (by decide) ?_
      refine lv_goto (tgt := 29) hx hb dX4_isFreshIn_25 (by decide) ?_
      subst hQ9
      exact end_z C hr hlocks (by decide) () hW (by first | exact Or.inl ⟨by decide, by omega⟩) dX4_isFreshIn_29
    · have c4 : ¬ x3.toInt = (-1) := tne rfl kn1 c4
      refine lv_aload_n hx hb dX4_isFreshIn_16 rfl (lv_at hl 0 rfl) ?_
      refine rg_5_1 C hW (List.mem_append_right _ hmo) tw_944 dX4_isFreshIn_17 ?_
      refine lv_topi (fun x5 (e5 : x5 = I 5 1 o) => ?_)
      have t5 : x5.toInt = (I 5 1 o).toInt := by rw [e5]
      refine lv_iload_n hx hb dX4_isFreshIn_20 rfl (lv_at hl 1 rfl) ?_
      refine lv_icmp_le (tgt := 28) hx hb dX4_isFreshIn_21 (by decide) (fun c6 => ?_) (fun c6 => ?_)
      · have c6 : x5.toInt ≤ a0.toInt := tle rfl rfl c6
        refine lv_iconst (v := 0) hx hb dX4_isFreshIn_28 (by decide) ?_
        subst hQ9
        exact end_z C hr hlocks (by decide) () hW (by first | exact Or.inr (⟨by decide, by omega⟩)) dX4_isFreshIn_29
      · have c6 : a0.toInt < x5.toInt := tnle rfl rfl c6
        refine lv_iconst (v := 1) hx hb dX4_isFreshIn_24 (by decide) ?_
        refine lv_goto (tgt := 29) hx hb dX4_isFreshIn_25 (by decide) ?_
        subst hQ9
        exact end_z C hr hlocks (by decide) () hW (by first | exact Or.inl ⟨by decide, by omega⟩) dX4_isFreshIn_29

set_option maxHeartbeats 4000000 in
set_option maxRecDepth 100000 in
theorem c_X11_lag_e (l : Launch) (g : gG) (J : Nat → Nat → Int32) (L : Nat → Nat → Int64) (I : Nat → Nat → Nat → Int32) (P : Nat → Nat → Nat → Option Nat) (E : Nat → Option Nat) (N : Nat → Nat) (dy : List (Nat × Nat)) (sz : Nat) (a0 : Int32) (hwf : WXF g J P E N dy) (hspr : SPR I E P (J 27 2).toInt (J 3 1).toInt (J 116) (J 117) (J 118) (J 119) (J 120)) : Met l yX11_lag (WS yX11_lag cX11_lag 5 (some .int)) (RM (5) 0 0) (PC g [.ref (g.2.2.1 12), .int a0] ((J, L, I, P, E, N), sgX g ++ dy) sz) (va_Qi (fun (r : Int32) (u : (Nat → Nat → Int32)) => ((r.toInt = (-1) ∧ (¬ (0 ≤ a0.toInt ∧ a0.toInt < (J 3 1).toInt))) ∨ (r.toInt = (-3) ∧ (0 ≤ a0.toInt ∧ a0.toInt < (J 3 1).toInt ∧ ¬ (J 116 a0.toNatClampNeg).toInt = 0)) ∨ (r.toInt = (-9) ∧ (0 ≤ a0.toInt ∧ a0.toInt < (J 3 1).toInt ∧ (J 116 a0.toNatClampNeg).toInt = 0 ∧ ¬ (0 ≤ (J 119 a0.toNatClampNeg).toInt ∧ (J 119 a0.toNatClampNeg).toInt < (J 26 2).toInt))) ∨ (r = a0 - I 5 0 (elt E P 26 (J 119 a0.toNatClampNeg).toNatClampNeg) ∧ (0 ≤ a0.toInt ∧ a0.toInt < (J 3 1).toInt ∧ (J 116 a0.toNatClampNeg).toInt = 0 ∧ 0 ≤ (J 119 a0.toNatClampNeg).toInt ∧ (J 119 a0.toNatClampNeg).toInt < (J 26 2).toInt)))) (fun u t => at_ g (FR g ((J, L, I, P, E, N), sgX g ++ dy) sz) (((hv J [42] [] u), L, I, P, E, N), sgX g ++ dy) t) (FR g ((J, L, I, P, E, N), sgX g ++ dy) sz)) 0 0 (FR g ((J, L, I, P, E, N), sgX g ++ dy) sz) := by
  refine ent (by decide +kernel) (Nat.le_of_ble_eq_true rfl) ?_
  intro p e s m below meth c ls hsz C hW hr hlocks hname hl
  generalize FR g ((J, L, I, P, E, N), sgX g ++ dy) sz = A at C hW ⊢
  generalize hQ9 : (va_Qi (fun (r : Int32) (u : (Nat → Nat → Int32)) => ((r.toInt = (-1) ∧ (¬ (0 ≤ a0.toInt ∧ a0.toInt < (J 3 1).toInt))) ∨ (r.toInt = (-3) ∧ (0 ≤ a0.toInt ∧ a0.toInt < (J 3 1).toInt ∧ ¬ (J 116 a0.toNatClampNeg).toInt = 0)) ∨ (r.toInt = (-9) ∧ (0 ≤ a0.toInt ∧ a0.toInt < (J 3 1).toInt ∧ (J 116 a0.toNatClampNeg).toInt = 0 ∧ ¬ (0 ≤ (J 119 a0.toNatClampNeg).toInt ∧ (J 119 a0.toNatClampNeg).toInt < (J 26 2).toInt))) ∨ (r = a0 - I 5 0 (elt E P 26 (J 119 a0.toNatClampNeg).toNatClampNeg) ∧ (0 ≤ a0.toInt ∧ a0.toInt < (J 3 1).toInt ∧ (J 116 a0.toNatClampNeg).toInt = 0 ∧ 0 ≤ (J 119 a0.toNatClampNeg).toInt ∧ (J 119 a0.toNatClampNeg).toInt < (J 26 2).toInt)))) (fun u t => at_ g A (((hv J [42] [] u), L, I, P, E, N), sgX g ++ dy) t) A) = Q9
  have hx := C.1.1
  have hb := C.1.2.1
  have hts := C.1.2.2.2.2
  have hl : lv_has ls 5 [(0, .ref (g.2.2.1 12)), (1, .int a0)] := hl
  obtain ⟨H, hH⟩ : ∃ H : Heap, H = s.heap := ⟨_, rfl⟩
  obtain ⟨locs, hlocs⟩ : ∃ q : List Loc, q = [] := ⟨_, rfl⟩
  have hW : WB g A s.heap H locs (J, L, I, P, E, N) (sgX g ++ dy) := by rw [hH, hlocs]; exact hW
  refine start_ hH hlocs ?_
  refine lv_aload_n hx hb dX11_lag_0 rfl (lv_at hl 0 rfl) ?_
  refine rg_12_1 C hW (mx_ rfl) tw_365 dX11_lag_1 ?_
  refine lv_iload_n hx hb dX11_lag_4 rfl (lv_at hl 1 rfl) ?_
  refine cq_ C hW (runV (x := (g.2.2.1 3)) (As := [.int a0]) (rest := []) (T := ((J, L, I, P, E, N), sgX g ++ dy)) C hW (c_X2_spanOf_e l g J L I P E N dy H.size a0 hwf (show SPR I E P (J 27 2).toInt (J 3 1).toInt (J 116) (J 117) (J 118) (J 119) (J 120) from hspr)) mi_X2_spanOf tw_639 (recv_ (T := ((J, L, I, P, E, N), sgX g ++ dy)) C hW (mx_ rfl) rfl rfl) ⟨rfl, rfl, Nat.le_of_ble_eq_true rfl, Nat.le_of_ble_eq_true rfl⟩ rfl hl.1 rfl (Nat.le_of_ble_eq_true rfl) dX11_lag_5 ⟨Nat.le_of_ble_eq_true rfl, Nat.le_of_ble_eq_true rfl⟩) (fun q1 u1 H locs hp1 hW => ?_)
  have hq1 : ((q1 = none ∧ (¬ (0 ≤ a0.toInt ∧ a0.toInt < (J 3 1).toInt))) ∨ (∃ o9 : Nat, q1 = some o9 ∧ (9, o9) ∈ dy ∧ (0 ≤ a0.toInt ∧ a0.toInt < (J 3 1).toInt ∧ (I 9 0 o9).toInt ≤ a0.toInt ∧ a0.toInt ≤ (I 9 1 o9).toInt ∧ SPO I o9 (J 3 1).toInt (J 116) (J 117) (J 118) (J 119) (J 120)))) := hp1
  clear hp1
  have hW : WB g A s.heap H locs (J, L, I, P, E, N) (sgX g ++ dy) := hW
  rcases hq1 with ⟨ho1, hn1⟩ | ⟨o1, ho1, hm1, hs1⟩ <;> subst ho1
  · refine lv_asv (v' := .null) rfl ?_
    refine lv_astore_nN (lv' := [(2, .null), (0, .ref (g.2.2.1 12)), (1, .int a0)]) hx hb dX11_lag_8 rfl hl (by decide) rfl (fun ls hl => ?_)
    refine lv_aload_nN hx hb dX11_lag_9 rfl (lv_at hl 0 rfl) ?_
    refine ci_ C hW (runS (As := [.null]) (rest := []) (T := ((J, L, I, P, E, N), sgX g ++ dy)) C hW (c_X11_readRefusal_n_e l g J L I P E N dy H.size  ) mi_X11_readRefusal tw_963 ⟨rfl, rfl, Nat.le_of_ble_eq_true rfl, Nat.le_of_ble_eq_true rfl⟩ rfl hl.1 rfl (Nat.le_of_ble_eq_true rfl) dX11_lag_10 ⟨Nat.le_of_ble_eq_true rfl, Nat.le_of_ble_eq_true rfl⟩) (fun r2 u2 H locs hp2 hW => ?_)
    have hc2 : ((r2.toInt = (-1))) := hp2
    clear hp2
    have hW : WB g A s.heap H locs (J, L, I, P, E, N) (sgX g ++ dy) := hW
    refine lv_istore_n (lv' := [(3, .int r2), (2, .null), (0, .ref (g.2.2.1 12)), (1, .int a0)]) hx hb dX11_lag_13 rfl hl (by decide) rfl (fun ls hl => ?_)
    refine lv_iload_n hx hb dX11_lag_14 rfl (lv_at hl 0 rfl) ?_
    refine lv_if_ne (tgt := 22) hx hb dX11_lag_15 (by decide) (fun c3 => ?_) (fun c3 => ?_)
    · have c3 : ¬ r2.toInt = 0 := tne rfl kp0 c3
      refine lv_aload_n hx hb dX11_lag_22 rfl (lv_at hl 2 rfl) ?_
      refine lv_iload_n hx hb dX11_lag_23 rfl (lv_at hl 0 rfl) ?_
      refine ci_ C hW (runV (x := (g.2.2.1 12)) (As := [.int r2]) (rest := []) (T := ((J, L, I, P, E, N), sgX g ++ dy)) C hW (c_X11_refuse l g J L I P E N dy H.size r2 hwf) mi_X11_refuse tw_411 (recv_ (T := ((J, L, I, P, E, N), sgX g ++ dy)) C hW (mx_ rfl) rfl rfl) ⟨rfl, rfl, Nat.le_of_ble_eq_true rfl, Nat.le_of_ble_eq_true rfl⟩ rfl hl.1 rfl (Nat.le_of_ble_eq_true rfl) dX11_lag_24 ⟨Nat.le_of_ble_eq_true rfl, Nat.le_of_ble_eq_true rfl⟩) (fun r4 u4 H locs hp4 hW => ?_)
      have hc4 : ((r4 = r2)) := hp4
      clear hp4
      have hr4 : r4.toInt = (r2).toInt := by rw [hc4]
      have hW : WB g A s.heap H locs ((hv J [42] [] u4), L, I, P, E, N) (sgX g ++ dy) := hW
      have hWr : WB g A s.heap H locs ((hv J [42] [] (hv J [42] [] u4)), L, I, P, E, N) (sgX g ++ dy) := by
        rw [← ag_hvE (J := J) (R := [42]) (F := []) (ag_hv rfl rfl ag_rf)]
        exact hW
      subst hQ9
      exact end_i C hr hlocks (hv J [42] [] u4) hWr (by first | exact Or.inl ⟨by omega, by omega⟩ | exact Or.inr (Or.inl ⟨by omega, by omega⟩)) dX11_lag_27
    · have c3 : r2.toInt = 0 := teq rfl kp0 c3
      refine lv_aload_nN hx hb dX11_lag_18 rfl (lv_at hl 1 rfl) ?_
      refine lv_ifnonnullN hx hb dX11_lag_19 ?_
      refine lv_aload_n hx hb dX11_lag_22 rfl (lv_at hl 2 rfl) ?_
      refine lv_iload_n hx hb dX11_lag_23 rfl (lv_at hl 0 rfl) ?_
      refine ci_ C hW (runV (x := (g.2.2.1 12)) (As := [.int r2]) (rest := []) (T := ((J, L, I, P, E, N), sgX g ++ dy)) C hW (c_X11_refuse l g J L I P E N dy H.size r2 hwf) mi_X11_refuse tw_411 (recv_ (T := ((J, L, I, P, E, N), sgX g ++ dy)) C hW (mx_ rfl) rfl rfl) ⟨rfl, rfl, Nat.le_of_ble_eq_true rfl, Nat.le_of_ble_eq_true rfl⟩ rfl hl.1 rfl (Nat.le_of_ble_eq_true rfl) dX11_lag_24 ⟨Nat.le_of_ble_eq_true rfl, Nat.le_of_ble_eq_true rfl⟩) (fun r5 u5 H locs hp5 hW => ?_)
      have hc5 : ((r5 = r2)) := hp5
      clear hp5
      have hr5 : r5.toInt = (r2).toInt := by rw [hc5]
      have hW : WB g A s.heap H locs ((hv J [42] [] u5), L, I, P, E, N) (sgX g ++ dy) := hW
      have hWr : WB g A s.heap H locs ((hv J [42] [] (hv J [42] [] u5)), L, I, P, E, N) (sgX g ++ dy) := by
        rw [← ag_hvE (J := J) (R := [42]) (F := []) (ag_hv rfl rfl ag_rf)]
        exact hW
      subst hQ9
      exact end_i C hr hlocks (hv J [42] [] u5) hWr (by first | exact Or.inl ⟨by omega, by omega⟩ | exact Or.inr (Or.inl ⟨by omega, by omega⟩)) dX11_lag_27
  · refine lv_asv (v' := .ref o1) rfl ?_
    obtain ⟨hsK1, hsR1, hsV1, hsO1, hsT1⟩ := spo_at hs1
    have hsk1 := congrArg Int32.toInt hsK1
    refine lv_astore_n (lv' := [(2, .ref o1), (0, .ref (g.2.2.1 12)), (1, .int a0)]) hx hb dX11_lag_8 rfl hl (by decide) rfl (fun ls hl => ?_)
    refine lv_aload_n hx hb dX11_lag_9 rfl (lv_at hl 0 rfl) ?_
    refine ci_ C hW (runS (As := [.ref o1]) (rest := []) (T := ((J, L, I, P, E, N), sgX g ++ dy)) C hW (c_X11_readRefusal_e l g J L I P E N dy H.size o1 hm1 ) mi_X11_readRefusal tw_963 ⟨rfl, rfl, Nat.le_of_ble_eq_true rfl, Nat.le_of_ble_eq_true rfl⟩ rfl hl.1 rfl (Nat.le_of_ble_eq_true rfl) dX11_lag_10 ⟨Nat.le_of_ble_eq_true rfl, Nat.le_of_ble_eq_true rfl⟩) (fun r6 u6 H locs hp6 hW => ?_)
    have hc6 : ((r6.toInt = 0 ∧ ((I 9 2 o1).toInt = 0)) ∨ (r6.toInt = (-3) ∧ (¬ (I 9 2 o1).toInt = 0))) := hp6
    clear hp6
    have hW : WB g A s.heap H locs (J, L, I, P, E, N) (sgX g ++ dy) := hW
    refine lv_istore_n (lv' := [(3, .int r6), (2, .ref o1), (0, .ref (g.2.2.1 12)), (1, .int a0)]) hx hb dX11_lag_13 rfl hl (by decide) rfl (fun ls hl => ?_)
    refine lv_iload_n hx hb dX11_lag_14 rfl (lv_at hl 0 rfl) ?_
    refine lv_if_ne (tgt := 22) hx hb dX11_lag_15 (by decide) (fun c7 => ?_) (fun c7 => ?_)
    · have c7 : ¬ r6.toInt = 0 := tne rfl kp0 c7
      refine lv_aload_n hx hb dX11_lag_22 rfl (lv_at hl 2 rfl) ?_
      refine lv_iload_n hx hb dX11_lag_23 rfl (lv_at hl 0 rfl) ?_
      refine ci_ C hW (runV (x := (g.2.2.1 12)) (As := [.int r6]) (rest := []) (T := ((J, L, I, P, E, N), sgX g ++ dy)) C hW (c_X11_refuse l g J L I P E N dy H.size r6 hwf) mi_X11_refuse tw_411 (recv_ (T := ((J, L, I, P, E, N), sgX g ++ dy)) C hW (mx_ rfl) rfl rfl) ⟨rfl, rfl, Nat.le_of_ble_eq_true rfl, Nat.le_of_ble_eq_true rfl⟩ rfl hl.1 rfl (Nat.le_of_ble_eq_true rfl) dX11_lag_24 ⟨Nat.le_of_ble_eq_true rfl, Nat.le_of_ble_eq_true rfl⟩) (fun r8 u8 H locs hp8 hW => ?_)
      have hc8 : ((r8 = r6)) := hp8
      clear hp8
      have hr8 : r8.toInt = (r6).toInt := by rw [hc8]
      have hW : WB g A s.heap H locs ((hv J [42] [] u8), L, I, P, E, N) (sgX g ++ dy) := hW
      have hWr : WB g A s.heap H locs ((hv J [42] [] (hv J [42] [] u8)), L, I, P, E, N) (sgX g ++ dy) := by
        rw [← ag_hvE (J := J) (R := [42]) (F := []) (ag_hv rfl rfl ag_rf)]
        exact hW
      subst hQ9
      exact end_i C hr hlocks (hv J [42] [] u8) hWr (by first | exact Or.inl ⟨by omega, by omega⟩ | exact Or.inr (Or.inl ⟨by omega, by omega⟩) | (rcases hc6 with qhc6 | qhc6 <;> first | exact Or.inl ⟨by omega, by omega⟩ | exact Or.inr (Or.inl ⟨by omega, by omega⟩) | (exfalso; omega))) dX11_lag_27
    · have c7 : r6.toInt = 0 := teq rfl kp0 c7
      refine lv_aload_n hx hb dX11_lag_18 rfl (lv_at hl 1 rfl) ?_
      refine lv_ifnonnull (tgt := 28) hx hb dX11_lag_19 (by decide) ?_
      refine lv_aload_n hx hb dX11_lag_28 rfl (lv_at hl 2 rfl) ?_
      refine lv_aload_n hx hb dX11_lag_29 rfl (lv_at hl 1 rfl) ?_
      refine rg_9_6 C hW (List.mem_append_right _ hm1) tw_438 dX11_lag_30 ?_
      refine lv_topi (fun x9 (e9 : x9 = I 9 6 o1) => ?_)
      have t9 : x9.toInt = (I 9 6 o1).toInt := by rw [e9]
      refine cq_ C hW (runV (x := (g.2.2.1 12)) (As := [.int x9]) (rest := []) (T := ((J, L, I, P, E, N), sgX g ++ dy)) C hW (c_X11_newsOf_e l g J L I P E N dy H.size x9 hwf) mi_X11_newsOf tw_631 (recv_ (T := ((J, L, I, P, E, N), sgX g ++ dy)) C hW (mx_ rfl) rfl rfl) ⟨rfl, rfl, Nat.le_of_ble_eq_true rfl, Nat.le_of_ble_eq_true rfl⟩ rfl hl.1 rfl (Nat.le_of_ble_eq_true rfl) dX11_lag_33 ⟨Nat.le_of_ble_eq_true rfl, Nat.le_of_ble_eq_true rfl⟩) (fun q10 u10 H locs hp10 hW => ?_)
      have hq10 : ((q10 = none ∧ (¬ (0 ≤ x9.toInt ∧ x9.toInt < (J 26 2).toInt))) ∨ (q10 = some (elt E P 26 x9.toNatClampNeg) ∧ (0 ≤ x9.toInt ∧ x9.toInt < (J 26 2).toInt))) := hp10
      clear hp10
      have hW : WB g A s.heap H locs (J, L, I, P, E, N) (sgX g ++ dy) := hW
      rcases hq10 with ⟨rfl, hn10⟩ | ⟨rfl, hs10⟩
      · refine lv_asv (v' := .null) rfl ?_
        refine lv_astoreN (lv' := [(4, .null), (3, .int r6), (2, .ref o1), (0, .ref (g.2.2.1 12)), (1, .int a0)]) hx hb dX11_lag_36 hl (by decide) rfl (fun ls hl => ?_)
        have hof9 : x9 = J 119 a0.toNatClampNeg := e9.trans hsO1
        have hof8 := congrArg Int32.toInt hof9
        refine lv_aloadN hx hb dX11_lag_38 (lv_at hl 0 rfl) ?_
        refine lv_ifnonnullN hx hb dX11_lag_40 ?_
        refine lv_bipush (v := (-9)) hx hb dX11_lag_43 (by decide) ?_
        refine lv_goto (tgt := 55) hx hb dX11_lag_45 (by decide) ?_
        have hWr : WB g A s.heap H locs ((hv J [42] [] J), L, I, P, E, N) (sgX g ++ dy) := by
          rw [← ag_hvE (J := J) (R := [42]) (F := []) ag_rf]
          exact hW
        subst hQ9
        exact end_i C hr hlocks J hWr (by first | exact Or.inr (Or.inr (Or.inl ⟨by decide, by omega⟩)) | exact Or.inr (Or.inr (Or.inr (⟨by first | rfl | assumption, by omega⟩)))) dX11_lag_55
      · skip
        obtain ⟨o10, ho10⟩ : ∃ z : Nat, z = elt E P 26 x9.toNatClampNeg := ⟨_, rfl⟩
        have hm10 : (5, o10) ∈ dy := by rw [ho10]; exact (lw_mem (er := 5) hwf.2.1.2.2.1 (show (x9.toNatClampNeg : Int) < (J 26 2).toInt from by have := tcl x9; omega))
        have hnq10 : (I 5 1 o10).toInt = (I 5 1 (elt E P 26 x9.toNatClampNeg)).toInt ∧ (I 5 2 o10).toInt = (I 5 2 (elt E P 26 x9.toNatClampNeg)).toInt := by rw [ho10]; exact ⟨rfl, rfl⟩
        refine lv_asv (v' := .ref o10) (by rw [ho10]; rfl) ?_
        refine lv_astore (lv' := [(4, .ref o10), (3, .int r6), (2, .ref o1), (0, .ref (g.2.2.1 12)), (1, .int a0)]) hx hb dX11_lag_36 hl (by decide) rfl (fun ls hl => ?_)
        have hof9 : x9 = J 119 a0.toNatClampNeg := e9.trans hsO1
        have hof8 := congrArg Int32.toInt hof9
        have hoe9 : o10 = elt E P 26 (J 119 a0.toNatClampNeg).toNatClampNeg := by rw [ho10, hof9]
        have hoq9 : (I 5 1 o10).toInt = (I 5 1 (elt E P 26 (J 119 a0.toNatClampNeg).toNatClampNeg)).toInt ∧ (I 5 2 o10).toInt = (I 5 2 (elt E P 26 (J 119 a0.toNatClampNeg).toNatClampNeg)).toInt := by rw [hoe9]; exact ⟨rfl, rfl⟩
        refine lv_aload hx hb dX11_lag_38 (lv_at hl 0 rfl) ?_
        refine lv_ifnonnull (tgt := 48) hx hb dX11_lag_40 (by decide) ?_
        refine lv_iload_n hx hb dX11_lag_48 rfl (lv_at hl 4 rfl) ?_
        refine lv_aload hx hb dX11_lag_49 (lv_at hl 0 rfl) ?_
        refine rg_5_0 C hW (List.mem_append_right _ hm10) tw_943 dX11_lag_51 ?_
        refine lv_topi (fun x11 (e11 : x11 = I 5 0 o10) => ?_)
        have t11 : x11.toInt = (I 5 0 o10).toInt := by rw [e11]
        refine lv_isub hx hb dX11_lag_54 ?_
        refine lv_topi (fun x12 (e12 : x12 = a0 - x11) => ?_)
        try have t12 : x12.toInt = a0.toInt - x11.toInt := tsub e12 rfl rfl (by omega)
        have hr9 : x12 = a0 - I 5 0 (elt E P 26 (J 119 a0.toNatClampNeg).toNatClampNeg) := by rw [e12, e11, hoe9]
        have hWr : WB g A s.heap H locs ((hv J [42] [] J), L, I, P, E, N) (sgX g ++ dy) := by
          rw [← ag_hvE (J := J) (R := [42]) (F := []) ag_rf]
          exact hW
        subst hQ9
        exact end_i C hr hlocks J hWr (by first | exact Or.inl ⟨by omega, by omega⟩ | exact Or.inr (Or.inl ⟨by omega, by omega⟩) | exact Or.inr (Or.inr (Or.inl ⟨by omega, by omega⟩)) | exact Or.inr (Or.inr (Or.inr (⟨by first | rfl | assumption, by omega⟩))) | (rcases hc6 with qhc6 | qhc6 <;> first | exact Or.inl ⟨by omega, by omega⟩ | exact Or.inr (Or.inl ⟨by omega, by omega⟩) | exact Or.inr (Or.inr (Or.inl ⟨by omega, by omega⟩)) | exact Or.inr (Or.inr (Or.inr (⟨by first | rfl | assumption, by omega⟩))) | (exfalso; omega))) dX11_lag_55

set_option maxHeartbeats 4000000 in
set_option maxRecDepth 100000 in
theorem c_X11_fresh_e (l : Launch) (g : gG) (J : Nat → Nat → Int32) (L : Nat → Nat → Int64) (I : Nat → Nat → Nat → Int32) (P : Nat → Nat → Nat → Option Nat) (E : Nat → Option Nat) (N : Nat → Nat) (dy : List (Nat × Nat)) (sz : Nat) (a0 : Int32) (hwf : WXF g J P E N dy) (hspr : SPR I E P (J 27 2).toInt (J 3 1).toInt (J 116) (J 117) (J 118) (J 119) (J 120)) : Met l yX11_fresh (WS yX11_fresh cX11_fresh 5 (some .int)) (RM (5) 0 0) (PC g [.ref (g.2.2.1 12), .int a0] ((J, L, I, P, E, N), sgX g ++ dy) sz) (va_Qi (fun (r : Int32) (u : (Nat → Nat → Int32)) => ((r.toInt = (-1) ∧ (¬ (0 ≤ a0.toInt ∧ a0.toInt < (J 3 1).toInt))) ∨ (r.toInt = (-3) ∧ (0 ≤ a0.toInt ∧ a0.toInt < (J 3 1).toInt ∧ ¬ (J 116 a0.toNatClampNeg).toInt = 0)) ∨ (r.toInt = (-9) ∧ (0 ≤ a0.toInt ∧ a0.toInt < (J 3 1).toInt ∧ (J 116 a0.toNatClampNeg).toInt = 0 ∧ ¬ (0 ≤ (J 119 a0.toNatClampNeg).toInt ∧ (J 119 a0.toNatClampNeg).toInt < (J 26 2).toInt))) ∨ (r.toInt = 1 ∧ (0 ≤ a0.toInt ∧ a0.toInt < (J 3 1).toInt ∧ (J 116 a0.toNatClampNeg).toInt = 0 ∧ 0 ≤ (J 119 a0.toNatClampNeg).toInt ∧ (J 119 a0.toNatClampNeg).toInt < (J 26 2).toInt ∧ ((I 5 2 (elt E P 26 (J 119 a0.toNatClampNeg).toNatClampNeg)).toInt = a0.toInt ∧ ((I 5 1 (elt E P 26 (J 119 a0.toNatClampNeg).toNatClampNeg)).toInt = -1 ∨ a0.toInt < (I 5 1 (elt E P 26 (J 119 a0.toNatClampNeg).toNatClampNeg)).toInt)))) ∨ (r.toInt = 0 ∧ (0 ≤ a0.toInt ∧ a0.toInt < (J 3 1).toInt ∧ (J 116 a0.toNatClampNeg).toInt = 0 ∧ 0 ≤ (J 119 a0.toNatClampNeg).toInt ∧ (J 119 a0.toNatClampNeg).toInt < (J 26 2).toInt ∧ ¬ ((I 5 2 (elt E P 26 (J 119 a0.toNatClampNeg).toNatClampNeg)).toInt = a0.toInt ∧ ((I 5 1 (elt E P 26 (J 119 a0.toNatClampNeg).toNatClampNeg)).toInt = -1 ∨ a0.toInt < (I 5 1 (elt E P 26 (J 119 a0.toNatClampNeg).toNatClampNeg)).toInt)))))) (fun u t => at_ g (FR g ((J, L, I, P, E, N), sgX g ++ dy) sz) (((hv J [42] [] u), L, I, P, E, N), sgX g ++ dy) t) (FR g ((J, L, I, P, E, N), sgX g ++ dy) sz)) 0 0 (FR g ((J, L, I, P, E, N), sgX g ++ dy) sz) := by
  refine ent (by decide +kernel) (Nat.le_of_ble_eq_true rfl) ?_
  intro p e s m below meth c ls hsz C hW hr hlocks hname hl
  generalize FR g ((J, L, I, P, E, N), sgX g ++ dy) sz = A at C hW ⊢
  generalize hQ9 : (va_Qi (fun (r : Int32) (u : (Nat → Nat → Int32)) => ((r.toInt = (-1) ∧ (¬ (0 ≤ a0.toInt ∧ a0.toInt < (J 3 1).toInt))) ∨ (r.toInt = (-3) ∧ (0 ≤ a0.toInt ∧ a0.toInt < (J 3 1).toInt ∧ ¬ (J 116 a0.toNatClampNeg).toInt = 0)) ∨ (r.toInt = (-9) ∧ (0 ≤ a0.toInt ∧ a0.toInt < (J 3 1).toInt ∧ (J 116 a0.toNatClampNeg).toInt = 0 ∧ ¬ (0 ≤ (J 119 a0.toNatClampNeg).toInt ∧ (J 119 a0.toNatClampNeg).toInt < (J 26 2).toInt))) ∨ (r.toInt = 1 ∧ (0 ≤ a0.toInt ∧ a0.toInt < (J 3 1).toInt ∧ (J 116 a0.toNatClampNeg).toInt = 0 ∧ 0 ≤ (J 119 a0.toNatClampNeg).toInt ∧ (J 119 a0.toNatClampNeg).toInt < (J 26 2).toInt ∧ ((I 5 2 (elt E P 26 (J 119 a0.toNatClampNeg).toNatClampNeg)).toInt = a0.toInt ∧ ((I 5 1 (elt E P 26 (J 119 a0.toNatClampNeg).toNatClampNeg)).toInt = -1 ∨ a0.toInt < (I 5 1 (elt E P 26 (J 119 a0.toNatClampNeg).toNatClampNeg)).toInt)))) ∨ (r.toInt = 0 ∧ (0 ≤ a0.toInt ∧ a0.toInt < (J 3 1).toInt ∧ (J 116 a0.toNatClampNeg).toInt = 0 ∧ 0 ≤ (J 119 a0.toNatClampNeg).toInt ∧ (J 119 a0.toNatClampNeg).toInt < (J 26 2).toInt ∧ ¬ ((I 5 2 (elt E P 26 (J 119 a0.toNatClampNeg).toNatClampNeg)).toInt = a0.toInt ∧ ((I 5 1 (elt E P 26 (J 119 a0.toNatClampNeg).toNatClampNeg)).toInt = -1 ∨ a0.toInt < (I 5 1 (elt E P 26 (J 119 a0.toNatClampNeg).toNatClampNeg)).toInt)))))) (fun u t => at_ g A (((hv J [42] [] u), L, I, P, E, N), sgX g ++ dy) t) A) = Q9
  have hx := C.1.1
  have hb := C.1.2.1
  have hts := C.1.2.2.2.2
  have hl : lv_has ls 5 [(0, .ref (g.2.2.1 12)), (1, .int a0)] := hl
  obtain ⟨H, hH⟩ : ∃ H : Heap, H = s.heap := ⟨_, rfl⟩
  obtain ⟨locs, hlocs⟩ : ∃ q : List Loc, q = [] := ⟨_, rfl⟩
  have hW : WB g A s.heap H locs (J, L, I, P, E, N) (sgX g ++ dy) := by rw [hH, hlocs]; exact hW
  refine start_ hH hlocs ?_
  refine lv_aload_n hx hb dX11_fresh_0 rfl (lv_at hl 0 rfl) ?_
  refine rg_12_1 C hW (mx_ rfl) tw_365 dX11_fresh_1 ?_
  refine lv_iload_n hx hb dX11_fresh_4 rfl (lv_at hl 1 rfl) ?_
  refine cq_ C hW (runV (x := (g.2.2.1 3)) (As := [.int a0]) (rest := []) (T := ((J, L, I, P, E, N), sgX g ++ dy)) C hW (c_X2_spanOf_e l g J L I P E N dy H.size a0 hwf (show SPR I E P (J 27 2).toInt (J 3 1).toInt (J 116) (J 117) (J 118) (J 119) (J 120) from hspr)) mi_X2_spanOf tw_639 (recv_ (T := ((J, L, I, P, E, N), sgX g ++ dy)) C hW (mx_ rfl) rfl rfl) ⟨rfl, rfl, Nat.le_of_ble_eq_true rfl, Nat.le_of_ble_eq_true rfl⟩ rfl hl.1 rfl (Nat.le_of_ble_eq_true rfl) dX11_fresh_5 ⟨Nat.le_of_ble_eq_true rfl, Nat.le_of_ble_eq_true rfl⟩) (fun q1 u1 H locs hp1 hW => ?_)
  have hq1 : ((q1 = none ∧ (¬ (0 ≤ a0.toInt ∧ a0.toInt < (J 3 1).toInt))) ∨ (∃ o9 : Nat, q1 = some o9 ∧ (9, o9) ∈ dy ∧ (0 ≤ a0.toInt ∧ a0.toInt < (J 3 1).toInt ∧ (I 9 0 o9).toInt ≤ a0.toInt ∧ a0.toInt ≤ (I 9 1 o9).toInt ∧ SPO I o9 (J 3 1).toInt (J 116) (J 117) (J 118) (J 119) (J 120)))) := hp1
  clear hp1
  have hW : WB g A s.heap H locs (J, L, I, P, E, N) (sgX g ++ dy) := hW
  rcases hq1 with ⟨ho1, hn1⟩ | ⟨o1, ho1, hm1, hs1⟩ <;> subst ho1
  · refine lv_asv (v' := .null) rfl ?_
    refine lv_astore_nN (lv' := [(2, .null), (0, .ref (g.2.2.1 12)), (1, .int a0)]) hx hb dX11_fresh_8 rfl hl (by decide) rfl (fun ls hl => ?_)
    refine lv_aload_nN hx hb dX11_fresh_9 rfl (lv_at hl 0 rfl) ?_
    refine ci_ C hW (runS (As := [.null]) (rest := []) (T := ((J, L, I, P, E, N), sgX g ++ dy)) C hW (c_X11_readRefusal_n_e l g J L I P E N dy H.size  ) mi_X11_readRefusal tw_963 ⟨rfl, rfl, Nat.le_of_ble_eq_true rfl, Nat.le_of_ble_eq_true rfl⟩ rfl hl.1 rfl (Nat.le_of_ble_eq_true rfl) dX11_fresh_10 ⟨Nat.le_of_ble_eq_true rfl, Nat.le_of_ble_eq_true rfl⟩) (fun r2 u2 H locs hp2 hW => ?_)
    have hc2 : ((r2.toInt = (-1))) := hp2
    clear hp2
    have hW : WB g A s.heap H locs (J, L, I, P, E, N) (sgX g ++ dy) := hW
    refine lv_istore_n (lv' := [(3, .int r2), (2, .null), (0, .ref (g.2.2.1 12)), (1, .int a0)]) hx hb dX11_fresh_13 rfl hl (by decide) rfl (fun ls hl => ?_)
    refine lv_iload_n hx hb dX11_fresh_14 rfl (lv_at hl 0 rfl) ?_
    refine lv_if_ne (tgt := 22) hx hb dX11_fresh_15 (by decide) (fun c3 => ?_) (fun c3 => ?_)
    · have c3 : ¬ r2.toInt = 0 := tne rfl kp0 c3
      refine lv_aload_n hx hb dX11_fresh_22 rfl (lv_at hl 2 rfl) ?_
      refine lv_iload_n hx hb dX11_fresh_23 rfl (lv_at hl 0 rfl) ?_
      refine ci_ C hW (runV (x := (g.2.2.1 12)) (As := [.int r2]) (rest := []) (T := ((J, L, I, P, E, N), sgX g ++ dy)) C hW (c_X11_refuse l g J L I P E N dy H.size r2 hwf) mi_X11_refuse tw_411 (recv_ (T := ((J, L, I, P, E, N), sgX g ++ dy)) C hW (mx_ rfl) rfl rfl) ⟨rfl, rfl, Nat.le_of_ble_eq_true rfl, Nat.le_of_ble_eq_true rfl⟩ rfl hl.1 rfl (Nat.le_of_ble_eq_true rfl) dX11_fresh_24 ⟨Nat.le_of_ble_eq_true rfl, Nat.le_of_ble_eq_true rfl⟩) (fun r4 u4 H locs hp4 hW => ?_)
      have hc4 : ((r4 = r2)) := hp4
      clear hp4
      have hr4 : r4.toInt = (r2).toInt := by rw [hc4]
      have hW : WB g A s.heap H locs ((hv J [42] [] u4), L, I, P, E, N) (sgX g ++ dy) := hW
      have hWr : WB g A s.heap H locs ((hv J [42] [] (hv J [42] [] u4)), L, I, P, E, N) (sgX g ++ dy) := by
        rw [← ag_hvE (J := J) (R := [42]) (F := []) (ag_hv rfl rfl ag_rf)]
        exact hW
      subst hQ9
      exact end_i C hr hlocks (hv J [42] [] u4) hWr (by first | omega | exact Or.inl ⟨by omega, by omega⟩ | exact Or.inr (Or.inl ⟨by omega, by omega⟩)) dX11_fresh_27
    · have c3 : r2.toInt = 0 := teq rfl kp0 c3
      refine lv_aload_nN hx hb dX11_fresh_18 rfl (lv_at hl 1 rfl) ?_
      refine lv_ifnonnullN hx hb dX11_fresh_19 ?_
      refine lv_aload_n hx hb dX11_fresh_22 rfl (lv_at hl 2 rfl) ?_
      refine lv_iload_n hx hb dX11_fresh_23 rfl (lv_at hl 0 rfl) ?_
      refine ci_ C hW (runV (x := (g.2.2.1 12)) (As := [.int r2]) (rest := []) (T := ((J, L, I, P, E, N), sgX g ++ dy)) C hW (c_X11_refuse l g J L I P E N dy H.size r2 hwf) mi_X11_refuse tw_411 (recv_ (T := ((J, L, I, P, E, N), sgX g ++ dy)) C hW (mx_ rfl) rfl rfl) ⟨rfl, rfl, Nat.le_of_ble_eq_true rfl, Nat.le_of_ble_eq_true rfl⟩ rfl hl.1 rfl (Nat.le_of_ble_eq_true rfl) dX11_fresh_24 ⟨Nat.le_of_ble_eq_true rfl, Nat.le_of_ble_eq_true rfl⟩) (fun r5 u5 H locs hp5 hW => ?_)
      have hc5 : ((r5 = r2)) := hp5
      clear hp5
      have hr5 : r5.toInt = (r2).toInt := by rw [hc5]
      have hW : WB g A s.heap H locs ((hv J [42] [] u5), L, I, P, E, N) (sgX g ++ dy) := hW
      have hWr : WB g A s.heap H locs ((hv J [42] [] (hv J [42] [] u5)), L, I, P, E, N) (sgX g ++ dy) := by
        rw [← ag_hvE (J := J) (R := [42]) (F := []) (ag_hv rfl rfl ag_rf)]
        exact hW
      subst hQ9
      exact end_i C hr hlocks (hv J [42] [] u5) hWr (by first | omega | exact Or.inl ⟨by omega, by omega⟩ | exact Or.inr (Or.inl ⟨by omega, by omega⟩)) dX11_fresh_27
  · refine lv_asv (v' := .ref o1) rfl ?_
    obtain ⟨hsK1, hsR1, hsV1, hsO1, hsT1⟩ := spo_at hs1
    have hsk1 := congrArg Int32.toInt hsK1
    refine lv_astore_n (lv' := [(2, .ref o1), (0, .ref (g.2.2.1 12)), (1, .int a0)]) hx hb dX11_fresh_8 rfl hl (by decide) rfl (fun ls hl => ?_)
    refine lv_aload_n hx hb dX11_fresh_9 rfl (lv_at hl 0 rfl) ?_
    refine ci_ C hW (runS (As := [.ref o1]) (rest := []) (T := ((J, L, I, P, E, N), sgX g ++ dy)) C hW (c_X11_readRefusal_e l g J L I P E N dy H.size o1 hm1 ) mi_X11_readRefusal tw_963 ⟨rfl, rfl, Nat.le_of_ble_eq_true rfl, Nat.le_of_ble_eq_true rfl⟩ rfl hl.1 rfl (Nat.le_of_ble_eq_true rfl) dX11_fresh_10 ⟨Nat.le_of_ble_eq_true rfl, Nat.le_of_ble_eq_true rfl⟩) (fun r6 u6 H locs hp6 hW => ?_)
    have hc6 : ((r6.toInt = 0 ∧ ((I 9 2 o1).toInt = 0)) ∨ (r6.toInt = (-3) ∧ (¬ (I 9 2 o1).toInt = 0))) := hp6
    clear hp6
    have hW : WB g A s.heap H locs (J, L, I, P, E, N) (sgX g ++ dy) := hW
    refine lv_istore_n (lv' := [(3, .int r6), (2, .ref o1), (0, .ref (g.2.2.1 12)), (1, .int a0)]) hx hb dX11_fresh_13 rfl hl (by decide) rfl (fun ls hl => ?_)
    refine lv_iload_n hx hb dX11_fresh_14 rfl (lv_at hl 0 rfl) ?_
    refine lv_if_ne (tgt := 22) hx hb dX11_fresh_15 (by decide) (fun c7 => ?_) (fun c7 => ?_)
    · have c7 : ¬ r6.toInt = 0 := tne rfl kp0 c7
      refine lv_aload_n hx hb dX11_fresh_22 rfl (lv_at hl 2 rfl) ?_
      refine lv_iload_n hx hb dX11_fresh_23 rfl (lv_at hl 0 rfl) ?_
      refine ci_ C hW (runV (x := (g.2.2.1 12)) (As := [.int r6]) (rest := []) (T := ((J, L, I, P, E, N), sgX g ++ dy)) C hW (c_X11_refuse l g J L I P E N dy H.size r6 hwf) mi_X11_refuse tw_411 (recv_ (T := ((J, L, I, P, E, N), sgX g ++ dy)) C hW (mx_ rfl) rfl rfl) ⟨rfl, rfl, Nat.le_of_ble_eq_true rfl, Nat.le_of_ble_eq_true rfl⟩ rfl hl.1 rfl (Nat.le_of_ble_eq_true rfl) dX11_fresh_24 ⟨Nat.le_of_ble_eq_true rfl, Nat.le_of_ble_eq_true rfl⟩) (fun r8 u8 H locs hp8 hW => ?_)
      have hc8 : ((r8 = r6)) := hp8
      clear hp8
      have hr8 : r8.toInt = (r6).toInt := by rw [hc8]
      have hW : WB g A s.heap H locs ((hv J [42] [] u8), L, I, P, E, N) (sgX g ++ dy) := hW
      have hWr : WB g A s.heap H locs ((hv J [42] [] (hv J [42] [] u8)), L, I, P, E, N) (sgX g ++ dy) := by
        rw [← ag_hvE (J := J) (R := [42]) (F := []) (ag_hv rfl rfl ag_rf)]
        exact hW
      subst hQ9
      exact end_i C hr hlocks (hv J [42] [] u8) hWr (by first | omega | exact Or.inl ⟨by omega, by omega⟩ | exact Or.inr (Or.inl ⟨by omega, by omega⟩) | (rcases hc6 with qhc6 | qhc6 <;> first | omega | exact Or.inl ⟨by omega, by omega⟩ | exact Or.inr (Or.inl ⟨by omega, by omega⟩) | (exfalso; omega))) dX11_fresh_27
    · have c7 : r6.toInt = 0 := teq rfl kp0 c7
      refine lv_aload_n hx hb dX11_fresh_18 rfl (lv_at hl 1 rfl) ?_
      refine lv_ifnonnull (tgt := 28) hx hb dX11_fresh_19 (by decide) ?_
      refine lv_aload_n hx hb dX11_fresh_28 rfl (lv_at hl 2 rfl) ?_
      refine lv_aload_n hx hb dX11_fresh_29 rfl (lv_at hl 1 rfl) ?_
      refine rg_9_6 C hW (List.mem_append_right _ hm1) tw_438 dX11_fresh_30 ?_
      refine lv_topi (fun x9 (e9 : x9 = I 9 6 o1) => ?_)
      have t9 : x9.toInt = (I 9 6 o1).toInt := by rw [e9]
      refine cq_ C hW (runV (x := (g.2.2.1 12)) (As := [.int x9]) (rest := []) (T := ((J, L, I, P, E, N), sgX g ++ dy)) C hW (c_X11_newsOf_e l g J L I P E N dy H.size x9 hwf) mi_X11_newsOf tw_631 (recv_ (T := ((J, L, I, P, E, N), sgX g ++ dy)) C hW (mx_ rfl) rfl rfl) ⟨rfl, rfl, Nat.le_of_ble_eq_true rfl, Nat.le_of_ble_eq_true rfl⟩ rfl hl.1 rfl (Nat.le_of_ble_eq_true rfl) dX11_fresh_33 ⟨Nat.le_of_ble_eq_true rfl, Nat.le_of_ble_eq_true rfl⟩) (fun q10 u10 H locs hp10 hW => ?_)
      have hq10 : ((q10 = none ∧ (¬ (0 ≤ x9.toInt ∧ x9.toInt < (J 26 2).toInt))) ∨ (q10 = some (elt E P 26 x9.toNatClampNeg) ∧ (0 ≤ x9.toInt ∧ x9.toInt < (J 26 2).toInt))) := hp10
      clear hp10
      have hW : WB g A s.heap H locs (J, L, I, P, E, N) (sgX g ++ dy) := hW
      rcases hq10 with ⟨rfl, hn10⟩ | ⟨rfl, hs10⟩
      · refine lv_asv (v' := .null) rfl ?_
        refine lv_astoreN (lv' := [(4, .null), (3, .int r6), (2, .ref o1), (0, .ref (g.2.2.1 12)), (1, .int a0)]) hx hb dX11_fresh_36 hl (by decide) rfl (fun ls hl => ?_)
        have hof9 : x9 = J 119 a0.toNatClampNeg := e9.trans hsO1
        have hof8 := congrArg Int32.toInt hof9
        refine lv_aloadN hx hb dX11_fresh_38 (lv_at hl 0 rfl) ?_
        refine lv_ifnonnullN hx hb dX11_fresh_40 ?_
        refine lv_bipush (v := (-9)) hx hb dX11_fresh_43 (by decide) ?_
        have hWr : WB g A s.heap H locs ((hv J [42] [] J), L, I, P, E, N) (sgX g ++ dy) := by
          rw [← ag_hvE (J := J) (R := [42]) (F := []) ag_rf]
          exact hW
        subst hQ9
        exact end_i C hr hlocks J hWr (by first | exact Or.inr (Or.inr (Or.inl ⟨by decide, by omega⟩))) dX11_fresh_45
      · skip
        obtain ⟨o10, ho10⟩ : ∃ z : Nat, z = elt E P 26 x9.toNatClampNeg := ⟨_, rfl⟩
        have hm10 : (5, o10) ∈ dy := by rw [ho10]; exact (lw_mem (er := 5) hwf.2.1.2.2.1 (show (x9.toNatClampNeg : Int) < (J 26 2).toInt from by have := tcl x9; omega))
        have hnq10 : (I 5 1 o10).toInt = (I 5 1 (elt E P 26 x9.toNatClampNeg)).toInt ∧ (I 5 2 o10).toInt = (I 5 2 (elt E P 26 x9.toNatClampNeg)).toInt := by rw [ho10]; exact ⟨rfl, rfl⟩
        refine lv_asv (v' := .ref o10) (by rw [ho10]; rfl) ?_
        refine lv_astore (lv' := [(4, .ref o10), (3, .int r6), (2, .ref o1), (0, .ref (g.2.2.1 12)), (1, .int a0)]) hx hb dX11_fresh_36 hl (by decide) rfl (fun ls hl => ?_)
        have hof9 : x9 = J 119 a0.toNatClampNeg := e9.trans hsO1
        have hof8 := congrArg Int32.toInt hof9
        have hoe9 : o10 = elt E P 26 (J 119 a0.toNatClampNeg).toNatClampNeg := by rw [ho10, hof9]
        have hoq9 : (I 5 1 o10).toInt = (I 5 1 (elt E P 26 (J 119 a0.toNatClampNeg).toNatClampNeg)).toInt ∧ (I 5 2 o10).toInt = (I 5 2 (elt E P 26 (J 119 a0.toNatClampNeg).toNatClampNeg)).toInt := by rw [hoe9]; exact ⟨rfl, rfl⟩
        refine lv_aload hx hb dX11_fresh_38 (lv_at hl 0 rfl) ?_
        refine lv_ifnonnull (tgt := 46) hx hb dX11_fresh_40 (by decide) ?_
        refine lv_aload hx hb dX11_fresh_46 (lv_at hl 0 rfl) ?_
        refine lv_iload_n hx hb dX11_fresh_48 rfl (lv_at hl 4 rfl) ?_
        refine ci_ C hW (runV (x := o10) (As := [.int a0]) (rest := []) (T := ((J, L, I, P, E, N), sgX g ++ dy)) C hW (c_X4_isFreshIn_e l g J L I P E N dy H.size o10 hm10 a0 hwf) mi_X4_isFreshIn tw_970 (recv_ (T := ((J, L, I, P, E, N), sgX g ++ dy)) C hW (List.mem_append_right _ hm10) rfl rfl) ⟨rfl, rfl, Nat.le_of_ble_eq_true rfl, Nat.le_of_ble_eq_true rfl⟩ rfl hl.1 rfl (Nat.le_of_ble_eq_true rfl) dX11_fresh_49 ⟨Nat.le_of_ble_eq_true rfl, Nat.le_of_ble_eq_true rfl⟩) (fun r11 u11 H locs hp11 hW => ?_)
        have hc11 : ((r11.toInt = 1 ∧ (((I 5 2 o10).toInt = a0.toInt ∧ ((I 5 1 o10).toInt = -1 ∨ a0.toInt < (I 5 1 o10).toInt)))) ∨ (r11.toInt = 0 ∧ (¬ ((I 5 2 o10).toInt = a0.toInt ∧ ((I 5 1 o10).toInt = -1 ∨ a0.toInt < (I 5 1 o10).toInt))))) := hp11
        clear hp11
        have hW : WB g A s.heap H locs (J, L, I, P, E, N) (sgX g ++ dy) := hW
        refine lv_if_eq (tgt := 59) hx hb dX11_fresh_52 (by decide) (fun c12 => ?_) (fun c12 => ?_)
        · have c12 : r11.toInt = 0 := teq rfl kp0 c12
          refine lv_iconst (v := 0) hx hb dX11_fresh_59 (by decide) ?_
          have hWr : WB g A s.heap H locs ((hv J [42] [] J), L, I, P, E, N) (sgX g ++ dy) := by
            rw [← ag_hvE (J := J) (R := [42]) (F := []) ag_rf]
            exact hW
          subst hQ9
          exact end_i C hr hlocks J hWr (by first | exact Or.inr (Or.inr (Or.inr (Or.inr (⟨by decide, by omega⟩))))) dX11_fresh_60
        · have c12 : ¬ r11.toInt = 0 := tne rfl kp0 c12
          refine lv_iconst (v := 1) hx hb dX11_fresh_55 (by decide) ?_
          refine lv_goto (tgt := 60) hx hb dX11_fresh_56 (by decide) ?_
          have hWr : WB g A s.heap H locs ((hv J [42] [] J), L, I, P, E, N) (sgX g ++ dy) := by
            rw [← ag_hvE (J := J) (R := [42]) (F := []) ag_rf]
            exact hW
          subst hQ9
          exact end_i C hr hlocks J hWr (by first | exact Or.inr (Or.inr (Or.inr (Or.inl ⟨by decide, by omega⟩)))) dX11_fresh_60

set_option maxHeartbeats 4000000 in
set_option maxRecDepth 100000 in
theorem c_X12_printed_e (l : Launch) (g : gG) (J : Nat → Nat → Int32) (L : Nat → Nat → Int64) (I : Nat → Nat → Nat → Int32) (P : Nat → Nat → Nat → Option Nat) (E : Nat → Option Nat) (N : Nat → Nat) (sz : Nat) (a0 : Int32) (a1 : Int32) (hwm : WM J) : Met l yX12_printed (WS yX12_printed cX12_printed 4 (some .int)) (RM (3) 0 0) (PC g [.ref (g.2.2.1 13), .int a0, .int a1] ((J, L, I, P, E, N), sgM g) sz) (va_Qi (fun (r : Int32) (u : (Nat → Nat → Int32)) => ((r.toInt = (-1) ∧ (¬ (0 ≤ a0.toInt ∧ a0.toInt < (J 13 42).toInt)) ∧ u 128 = J 128) ∨ (r.toInt = (-3) ∧ (0 ≤ a0.toInt ∧ a0.toInt < (J 13 42).toInt ∧ 0 ≤ (J 128 a0.toNatClampNeg).toInt) ∧ u 128 = J 128) ∨ (r.toInt = (-4) ∧ (0 ≤ a0.toInt ∧ a0.toInt < (J 13 42).toInt ∧ (J 128 a0.toNatClampNeg).toInt < 0 ∧ a1.toInt < (J 13 31).toInt) ∧ u 128 = J 128) ∨ (r.toInt = (-6) ∧ (0 ≤ a0.toInt ∧ a0.toInt < (J 13 42).toInt ∧ (J 128 a0.toNatClampNeg).toInt < 0 ∧ (J 13 31).toInt ≤ a1.toInt ∧ 9999 < a1.toInt) ∧ u 128 = J 128) ∨ (r.toInt = 1 ∧ (0 ≤ a0.toInt ∧ a0.toInt < (J 13 42).toInt ∧ (J 128 a0.toNatClampNeg).toInt < 0 ∧ (J 13 31).toInt ≤ a1.toInt ∧ a1.toInt ≤ 9999) ∧ u 128 = up2 J 128 a0.toNatClampNeg a1 128))) (fun u t => at_ g (FR g ((J, L, I, P, E, N), sgM g) sz) ((hv J [100, 128] [] u, L, I, P, E, N), sgM g) t) (FR g ((J, L, I, P, E, N), sgM g) sz)) 0 0 (FR g ((J, L, I, P, E, N), sgM g) sz) := by
  refine ent (by decide +kernel) (Nat.le_of_ble_eq_true rfl) ?_
  intro p e s m below meth c ls hsz C hW hr hlocks hname hl
  generalize FR g ((J, L, I, P, E, N), sgM g) sz = A at C hW ⊢
  generalize hQ9 : (va_Qi (fun (r : Int32) (u : (Nat → Nat → Int32)) => ((r.toInt = (-1) ∧ (¬ (0 ≤ a0.toInt ∧ a0.toInt < (J 13 42).toInt)) ∧ u 128 = J 128) ∨ (r.toInt = (-3) ∧ (0 ≤ a0.toInt ∧ a0.toInt < (J 13 42).toInt ∧ 0 ≤ (J 128 a0.toNatClampNeg).toInt) ∧ u 128 = J 128) ∨ (r.toInt = (-4) ∧ (0 ≤ a0.toInt ∧ a0.toInt < (J 13 42).toInt ∧ (J 128 a0.toNatClampNeg).toInt < 0 ∧ a1.toInt < (J 13 31).toInt) ∧ u 128 = J 128) ∨ (r.toInt = (-6) ∧ (0 ≤ a0.toInt ∧ a0.toInt < (J 13 42).toInt ∧ (J 128 a0.toNatClampNeg).toInt < 0 ∧ (J 13 31).toInt ≤ a1.toInt ∧ 9999 < a1.toInt) ∧ u 128 = J 128) ∨ (r.toInt = 1 ∧ (0 ≤ a0.toInt ∧ a0.toInt < (J 13 42).toInt ∧ (J 128 a0.toNatClampNeg).toInt < 0 ∧ (J 13 31).toInt ≤ a1.toInt ∧ a1.toInt ≤ 9999) ∧ u 128 = up2 J 128 a0.toNatClampNeg a1 128))) (fun u t => at_ g A ((hv J [100, 128] [] u, L, I, P, E, N), sgM g) t) A) = Q9
  have hx := C.1.1
  have hb := C.1.2.1
  have hts := C.1.2.2.2.2
  have hW : WB g A s.heap s.heap [] (J, L, I, P, E, N) (sgM g) := hW
  have hl : lv_has ls 4 [(0, .ref (g.2.2.1 13)), (1, .int a0), (2, .int a1)] := hl
  obtain ⟨H, hH⟩ : ∃ H : Heap, H = s.heap := ⟨_, rfl⟩
  obtain ⟨locs, hlocs⟩ : ∃ q : List Loc, q = [] := ⟨_, rfl⟩
  have hW : WB g A s.heap H locs (J, L, I, P, E, N) (sgM g) := by rw [hH, hlocs]; exact hW
  obtain ⟨⟨hnd1, hnd2, hon, hhm1, hhm2, hhN, hcu1, hcu2, hco1, hco2, hcN⟩, ⟨hrd1, hrd2⟩, ⟨hnw1, hnw2, hns1, hns2, hof⟩, ⟨htm1, htm2, hts_⟩, ⟨had1, had2, hrw1, hrw2, htp1, htp2⟩⟩ := id hwm
  refine start_ hH hlocs ?_
  refine lv_iload_n hx hb dX12_printed_0 rfl (lv_at hl 1 rfl) ?_
  refine lv_aload_n hx hb dX12_printed_1 rfl (lv_at hl 0 rfl) ?_
  refine rg_13_42 C hW (mm_ rfl) tw_1065 dX12_printed_2 ?_
  refine ci_ C hW (runS (As := [.int a0, .int (J 13 42)]) (rest := []) (T := ((J, L, I, P, E, N), sgM g)) C hW (c_X12_isIn l g J L I P E N H.size a0 (J 13 42) ) mi_X12_isIn tw_1255 ⟨rfl, rfl, Nat.le_of_ble_eq_true rfl, Nat.le_of_ble_eq_true rfl⟩ rfl hl.1 rfl (Nat.le_of_ble_eq_true rfl) dX12_printed_5 ⟨Nat.le_of_ble_eq_true rfl, Nat.le_of_ble_eq_true rfl⟩) (fun r1 u1 H locs hp1 hW => ?_)
  have hc1 : ((r1.toInt = 1 ∧ (0 ≤ a0.toInt ∧ a0.toInt < (J 13 42).toInt)) ∨ (r1.toInt = 0 ∧ (¬ (0 ≤ a0.toInt ∧ a0.toInt < (J 13 42).toInt)))) := hp1
  clear hp1
  have hW : WB g A s.heap H locs (J, L, I, P, E, N) (sgM g) := hW
  refine lv_if_ne (tgt := 17) hx hb dX12_printed_8 (by decide) (fun c2 => ?_) (fun c2 => ?_)
  · have c2 : ¬ r1.toInt = 0 := tne rfl kp0 c2
    refine lv_aload_n hx hb dX12_printed_17 rfl (lv_at hl 0 rfl) ?_
    refine rg_13_28 C hW (mm_ rfl) tw_1051 dX12_printed_18 ?_
    refine lv_iload_n hx hb dX12_printed_21 rfl (lv_at hl 1 rfl) ?_
    have hin : vp_in a0 40 := tin rfl (by omega)
    refine ra_128 C hW (mm_ rfl) hin dX12_printed_22 ?_
    refine lv_topi (fun x3 (e3 : x3 = J 128 a0.toNatClampNeg) => ?_)
    have t3 : x3.toInt = (J 128 a0.toNatClampNeg).toInt := by rw [e3]
    refine lv_if_lt (tgt := 33) hx hb dX12_printed_23 (by decide) (fun c4 => ?_) (fun c4 => ?_)
    · have c4 : x3.toInt < 0 := tlt rfl kp0 c4
      refine lv_iload_n hx hb dX12_printed_33 rfl (lv_at hl 2 rfl) ?_
      refine lv_aload_n hx hb dX12_printed_34 rfl (lv_at hl 0 rfl) ?_
      refine rg_13_31 C hW (mm_ rfl) tw_1054 dX12_printed_35 ?_
      refine lv_sipush (v := 9999) hx hb dX12_printed_38 (by decide) ?_
      refine ci_ C hW (runS (As := [.int a1, .int (J 13 31), .int 9999]) (rest := []) (T := ((J, L, I, P, E, N), sgM g)) C hW (c_X12_within l g J L I P E N H.size a1 (J 13 31) 9999 ) mi_X12_within tw_1258 ⟨rfl, rfl, Nat.le_of_ble_eq_true rfl, Nat.le_of_ble_eq_true rfl⟩ rfl hl.1 rfl (Nat.le_of_ble_eq_true rfl) dX12_printed_41 ⟨Nat.le_of_ble_eq_true rfl, Nat.le_of_ble_eq_true rfl⟩) (fun r5 u5 H locs hp5 hW => ?_)
      have hc5 : ((r5.toInt = (-4) ∧ (a1.toInt < (J 13 31).toInt)) ∨ (r5.toInt = (-6) ∧ ((J 13 31).toInt ≤ a1.toInt ∧ 9999 < a1.toInt)) ∨ (r5.toInt = 0 ∧ ((J 13 31).toInt ≤ a1.toInt ∧ a1.toInt ≤ 9999))) := hp5
      clear hp5
      have hW : WB g A s.heap H locs (J, L, I, P, E, N) (sgM g) := hW
      refine lv_istore_n (lv' := [(3, .int r5), (0, .ref (g.2.2.1 13)), (1, .int a0), (2, .int a1)]) hx hb dX12_printed_44 rfl hl (by decide) rfl (fun ls hl => ?_)
      refine lv_iload_n hx hb dX12_printed_45 rfl (lv_at hl 0 rfl) ?_
      refine lv_if_eq (tgt := 55) hx hb dX12_printed_46 (by decide) (fun c6 => ?_) (fun c6 => ?_)
      · have c6 : r5.toInt = 0 := teq rfl kp0 c6
        refine lv_aload_n hx hb dX12_printed_55 rfl (lv_at hl 1 rfl) ?_
        refine rg_13_28 C hW (mm_ rfl) tw_1051 dX12_printed_56 ?_
        refine lv_iload_n hx hb dX12_printed_59 rfl (lv_at hl 2 rfl) ?_
        refine lv_iload_n hx hb dX12_printed_60 rfl (lv_at hl 3 rfl) ?_
        have hin : vp_in a0 40 := tin rfl (by omega)
        refine rs_128 C hW (mm_ rfl) hin dX12_printed_61 (fun H locs hW => ?_)
        refine lv_iconst (v := 1) hx hb dX12_printed_62 (by decide) ?_
        have hWr : WB g A s.heap H locs (hv J [100, 128] [] (up2 J 128 a0.toNatClampNeg a1), L, I, P, E, N) (sgM g) := by
          rw [← ag_hvE (J := J) (R := [100, 128]) (F := []) (ag_up (Or.inl rfl) ag_rf)]
          exact hW
        subst hQ9
        exact end_i C hr hlocks (up2 J 128 a0.toNatClampNeg a1) hWr (by first | exact Or.inr (Or.inr (Or.inr (Or.inr (⟨by decide, by omega, show (up2 J 128 a0.toNatClampNeg a1) 128 = up2 J 128 a0.toNatClampNeg a1 128 from by first | rfl | assumption⟩))))) dX12_printed_63
      · have c6 : ¬ r5.toInt = 0 := tne rfl kp0 c6
        refine lv_aload_n hx hb dX12_printed_49 rfl (lv_at hl 1 rfl) ?_
        refine lv_iload_n hx hb dX12_printed_50 rfl (lv_at hl 0 rfl) ?_
        refine ci_ C hW (runV (x := (g.2.2.1 13)) (As := [.int r5]) (rest := []) (T := ((J, L, I, P, E, N), sgM g)) C hW (c_X12_refuse l g J L I P E N H.size r5 (show -6 ≤ r5.toInt ∧ r5.toInt ≤ -1 from by omega)) mi_X12_refuse tw_1239 (recv_ (T := ((J, L, I, P, E, N), sgM g)) C hW (mm_ rfl) rfl rfl) ⟨rfl, rfl, Nat.le_of_ble_eq_true rfl, Nat.le_of_ble_eq_true rfl⟩ rfl hl.1 rfl (Nat.le_of_ble_eq_true rfl) dX12_printed_51 ⟨Nat.le_of_ble_eq_true rfl, Nat.le_of_ble_eq_true rfl⟩) (fun r7 u7 H locs hp7 hW => ?_)
        have hc7 : ((r7 = r5)) := hp7
        clear hp7
        have hr7 : r7.toInt = (r5).toInt := by rw [hc7]
        have hW : WB g A s.heap H locs ((hv J [100] [] u7), L, I, P, E, N) (sgM g) := hW
        have hWr : WB g A s.heap H locs (hv J [100, 128] [] (hv J [100] [] u7), L, I, P, E, N) (sgM g) := by
          rw [← ag_hvE (J := J) (R := [100, 128]) (F := []) (ag_hv rfl rfl ag_rf)]
          exact hW
        subst hQ9
        exact end_i C hr hlocks (hv J [100] [] u7) hWr (by first | exact Or.inl ⟨by omega, by omega, show J 128 = J 128 from by first | rfl | assumption⟩ | exact Or.inr (Or.inl ⟨by omega, by omega, show J 128 = J 128 from by first | rfl | assumption⟩) | exact Or.inr (Or.inr (Or.inl ⟨by omega, by omega, show J 128 = J 128 from by first | rfl | assumption⟩)) | exact Or.inr (Or.inr (Or.inr (Or.inl ⟨by omega, by omega, show J 128 = J 128 from by first | rfl | assumption⟩))) | exact Or.inr (Or.inr (Or.inr (Or.inr (⟨by omega, by omega, show J 128 = up2 J 128 a0.toNatClampNeg a1 128 from by first | rfl | assumption⟩)))) | (rcases hc1 with qhc1 | qhc1 <;> rcases hc5 with qhc5 | qhc5 | qhc5 <;> first | exact Or.inl ⟨by omega, by omega, show J 128 = J 128 from by first | rfl | assumption⟩ | exact Or.inr (Or.inl ⟨by omega, by omega, show J 128 = J 128 from by first | rfl | assumption⟩) | exact Or.inr (Or.inr (Or.inl ⟨by omega, by omega, show J 128 = J 128 from by first | rfl | assumption⟩)) | exact Or.inr (Or.inr (Or.inr (Or.inl ⟨by omega, by omega, show J 128 = J 128 from by first | rfl | assumption⟩))) | exact Or.inr (Or.inr (Or.inr (Or.inr (⟨by omega, by omega, show J 128 = up2 J 128 a0.toNatClampNeg a1 128 from by first | rfl | assumption⟩)))) | (exfalso; omega))) dX12_printed_54
    · have c4 : 0 ≤ x3.toInt := tnlt rfl kp0 c4
      refine lv_aload_n hx hb dX12_printed_26 rfl (lv_at hl 0 rfl) ?_
      refine lv_bipush (v := (-3)) hx hb dX12_printed_27 (by decide) ?_
      refine ci_ C hW (runV (x := (g.2.2.1 13)) (As := [.int (-3)]) (rest := []) (T := ((J, L, I, P, E, N), sgM g)) C hW (c_X12_refuse l g J L I P E N H.size (-3) (show -6 ≤ (-3 : Int32).toInt ∧ (-3 : Int32).toInt ≤ -1 from by (try simp only [kn3]); omega)) mi_X12_refuse tw_1239 (recv_ (T := ((J, L, I, P, E, N), sgM g)) C hW (mm_ rfl) rfl rfl) ⟨rfl, rfl, Nat.le_of_ble_eq_true rfl, Nat.le_of_ble_eq_true rfl⟩ rfl hl.1 rfl (Nat.le_of_ble_eq_true rfl) dX12_printed_29 ⟨Nat.le_of_ble_eq_true rfl, Nat.le_of_ble_eq_true rfl⟩) (fun r8 u8 H locs hp8 hW => ?_)
      have hc8 : ((r8 = (-3))) := hp8
      clear hp8
      have hr8 : r8.toInt = (-3) := by rw [hc8]; exact kn3
      have hW : WB g A s.heap H locs ((hv J [100] [] u8), L, I, P, E, N) (sgM g) := hW
      have hWr : WB g A s.heap H locs (hv J [100, 128] [] (hv J [100] [] u8), L, I, P, E, N) (sgM g) := by
        rw [← ag_hvE (J := J) (R := [100, 128]) (F := []) (ag_hv rfl rfl ag_rf)]
        exact hW
      subst hQ9
      exact end_i C hr hlocks (hv J [100] [] u8) hWr (by first | exact Or.inl ⟨by omega, by omega, show J 128 = J 128 from by first | rfl | assumption⟩ | exact Or.inr (Or.inl ⟨by omega, by omega, show J 128 = J 128 from by first | rfl | assumption⟩) | exact Or.inr (Or.inr (Or.inl ⟨by omega, by omega, show J 128 = J 128 from by first | rfl | assumption⟩)) | exact Or.inr (Or.inr (Or.inr (Or.inl ⟨by omega, by omega, show J 128 = J 128 from by first | rfl | assumption⟩))) | exact Or.inr (Or.inr (Or.inr (Or.inr (⟨by omega, by omega, show J 128 = up2 J 128 a0.toNatClampNeg a1 128 from by first | rfl | assumption⟩)))) | (rcases hc1 with qhc1 | qhc1 <;> first | exact Or.inl ⟨by omega, by omega, show J 128 = J 128 from by first | rfl | assumption⟩ | exact Or.inr (Or.inl ⟨by omega, by omega, show J 128 = J 128 from by first | rfl | assumption⟩) | exact Or.inr (Or.inr (Or.inl ⟨by omega, by omega, show J 128 = J 128 from by first | rfl | assumption⟩)) | exact Or.inr (Or.inr (Or.inr (Or.inl ⟨by omega, by omega, show J 128 = J 128 from by first | rfl | assumption⟩))) | exact Or.inr (Or.inr (Or.inr (Or.inr (⟨by omega, by omega, show J 128 = up2 J 128 a0.toNatClampNeg a1 128 from by first | rfl | assumption⟩)))) | (exfalso; omega))) dX12_printed_32
  · have c2 : r1.toInt = 0 := teq rfl kp0 c2
    refine lv_aload_n hx hb dX12_printed_11 rfl (lv_at hl 0 rfl) ?_
    refine lv_iconst (v := (-1)) hx hb dX12_printed_12 (by decide) ?_
    refine ci_ C hW (runV (x := (g.2.2.1 13)) (As := [.int (-1)]) (rest := []) (T := ((J, L, I, P, E, N), sgM g)) C hW (c_X12_refuse l g J L I P E N H.size (-1) (show -6 ≤ (-1 : Int32).toInt ∧ (-1 : Int32).toInt ≤ -1 from by (try simp only [kn1]); omega)) mi_X12_refuse tw_1239 (recv_ (T := ((J, L, I, P, E, N), sgM g)) C hW (mm_ rfl) rfl rfl) ⟨rfl, rfl, Nat.le_of_ble_eq_true rfl, Nat.le_of_ble_eq_true rfl⟩ rfl hl.1 rfl (Nat.le_of_ble_eq_true rfl) dX12_printed_13 ⟨Nat.le_of_ble_eq_true rfl, Nat.le_of_ble_eq_true rfl⟩) (fun r9 u9 H locs hp9 hW => ?_)
    have hc9 : ((r9 = (-1))) := hp9
    clear hp9
    have hr9 : r9.toInt = (-1) := by rw [hc9]; exact kn1
    have hW : WB g A s.heap H locs ((hv J [100] [] u9), L, I, P, E, N) (sgM g) := hW
    have hWr : WB g A s.heap H locs (hv J [100, 128] [] (hv J [100] [] u9), L, I, P, E, N) (sgM g) := by
      rw [← ag_hvE (J := J) (R := [100, 128]) (F := []) (ag_hv rfl rfl ag_rf)]
      exact hW
    subst hQ9
    exact end_i C hr hlocks (hv J [100] [] u9) hWr (by first | exact Or.inl ⟨by omega, by omega, show J 128 = J 128 from by first | rfl | assumption⟩ | exact Or.inr (Or.inl ⟨by omega, by omega, show J 128 = J 128 from by first | rfl | assumption⟩) | exact Or.inr (Or.inr (Or.inl ⟨by omega, by omega, show J 128 = J 128 from by first | rfl | assumption⟩)) | exact Or.inr (Or.inr (Or.inr (Or.inl ⟨by omega, by omega, show J 128 = J 128 from by first | rfl | assumption⟩))) | exact Or.inr (Or.inr (Or.inr (Or.inr (⟨by omega, by omega, show J 128 = up2 J 128 a0.toNatClampNeg a1 128 from by first | rfl | assumption⟩)))) | (rcases hc1 with qhc1 | qhc1 <;> first | exact Or.inl ⟨by omega, by omega, show J 128 = J 128 from by first | rfl | assumption⟩ | exact Or.inr (Or.inl ⟨by omega, by omega, show J 128 = J 128 from by first | rfl | assumption⟩) | exact Or.inr (Or.inr (Or.inl ⟨by omega, by omega, show J 128 = J 128 from by first | rfl | assumption⟩)) | exact Or.inr (Or.inr (Or.inr (Or.inl ⟨by omega, by omega, show J 128 = J 128 from by first | rfl | assumption⟩))) | exact Or.inr (Or.inr (Or.inr (Or.inr (⟨by omega, by omega, show J 128 = up2 J 128 a0.toNatClampNeg a1 128 from by first | rfl | assumption⟩)))) | (exfalso; omega))) dX12_printed_16

set_option maxHeartbeats 4000000 in
set_option maxRecDepth 100000 in
theorem c_X12_lag_e (l : Launch) (g : gG) (J : Nat → Nat → Int32) (L : Nat → Nat → Int64) (I : Nat → Nat → Nat → Int32) (P : Nat → Nat → Nat → Option Nat) (E : Nat → Option Nat) (N : Nat → Nat) (sz : Nat) (a0 : Int32) (hwm : WM J) : Met l yX12_lag (WS yX12_lag cX12_lag 2 (some .int)) (RM (3) 0 0) (PC g [.ref (g.2.2.1 13), .int a0] ((J, L, I, P, E, N), sgM g) sz) (va_Qi (fun (r : Int32) (u : (Nat → Nat → Int32)) => ((r.toInt = (-1) ∧ (¬ (0 ≤ a0.toInt ∧ a0.toInt < (J 13 31).toInt))) ∨ (r.toInt = (-3) ∧ (0 ≤ a0.toInt ∧ a0.toInt < (J 13 31).toInt ∧ ¬ (J 116 a0.toNatClampNeg).toInt = 0)) ∨ (r.toInt = (-9) ∧ (0 ≤ a0.toInt ∧ a0.toInt < (J 13 31).toInt ∧ (J 116 a0.toNatClampNeg).toInt = 0 ∧ (J 119 a0.toNatClampNeg).toInt < 0)) ∨ (r = a0 - J 127 (J 119 a0.toNatClampNeg).toNatClampNeg ∧ (0 ≤ a0.toInt ∧ a0.toInt < (J 13 31).toInt ∧ (J 116 a0.toNatClampNeg).toInt = 0 ∧ 0 ≤ (J 119 a0.toNatClampNeg).toInt)))) (fun u t => at_ g (FR g ((J, L, I, P, E, N), sgM g) sz) ((hv J [100] [] u, L, I, P, E, N), sgM g) t) (FR g ((J, L, I, P, E, N), sgM g) sz)) 0 0 (FR g ((J, L, I, P, E, N), sgM g) sz) := by
  refine ent (by decide +kernel) (Nat.le_of_ble_eq_true rfl) ?_
  intro p e s m below meth c ls hsz C hW hr hlocks hname hl
  generalize FR g ((J, L, I, P, E, N), sgM g) sz = A at C hW ⊢
  generalize hQ9 : (va_Qi (fun (r : Int32) (u : (Nat → Nat → Int32)) => ((r.toInt = (-1) ∧ (¬ (0 ≤ a0.toInt ∧ a0.toInt < (J 13 31).toInt))) ∨ (r.toInt = (-3) ∧ (0 ≤ a0.toInt ∧ a0.toInt < (J 13 31).toInt ∧ ¬ (J 116 a0.toNatClampNeg).toInt = 0)) ∨ (r.toInt = (-9) ∧ (0 ≤ a0.toInt ∧ a0.toInt < (J 13 31).toInt ∧ (J 116 a0.toNatClampNeg).toInt = 0 ∧ (J 119 a0.toNatClampNeg).toInt < 0)) ∨ (r = a0 - J 127 (J 119 a0.toNatClampNeg).toNatClampNeg ∧ (0 ≤ a0.toInt ∧ a0.toInt < (J 13 31).toInt ∧ (J 116 a0.toNatClampNeg).toInt = 0 ∧ 0 ≤ (J 119 a0.toNatClampNeg).toInt)))) (fun u t => at_ g A ((hv J [100] [] u, L, I, P, E, N), sgM g) t) A) = Q9
  have hx := C.1.1
  have hb := C.1.2.1
  have hts := C.1.2.2.2.2
  have hW : WB g A s.heap s.heap [] (J, L, I, P, E, N) (sgM g) := hW
  have hl : lv_has ls 2 [(0, .ref (g.2.2.1 13)), (1, .int a0)] := hl
  obtain ⟨H, hH⟩ : ∃ H : Heap, H = s.heap := ⟨_, rfl⟩
  obtain ⟨locs, hlocs⟩ : ∃ q : List Loc, q = [] := ⟨_, rfl⟩
  have hW : WB g A s.heap H locs (J, L, I, P, E, N) (sgM g) := by rw [hH, hlocs]; exact hW
  obtain ⟨⟨hnd1, hnd2, hon, hhm1, hhm2, hhN, hcu1, hcu2, hco1, hco2, hcN⟩, ⟨hrd1, hrd2⟩, ⟨hnw1, hnw2, hns1, hns2, hof⟩, ⟨htm1, htm2, hts_⟩, ⟨had1, had2, hrw1, hrw2, htp1, htp2⟩⟩ := id hwm
  refine start_ hH hlocs ?_
  refine lv_aload_n hx hb dX12_lag_0 rfl (lv_at hl 0 rfl) ?_
  refine lv_iload_n hx hb dX12_lag_1 rfl (lv_at hl 1 rfl) ?_
  refine ci_ C hW (runV (x := (g.2.2.1 13)) (As := [.int a0]) (rest := []) (T := ((J, L, I, P, E, N), sgM g)) C hW (c_X12_isPast l g J L I P E N H.size a0 hwm) mi_X12_isPast tw_1326 (recv_ (T := ((J, L, I, P, E, N), sgM g)) C hW (mm_ rfl) rfl rfl) ⟨rfl, rfl, Nat.le_of_ble_eq_true rfl, Nat.le_of_ble_eq_true rfl⟩ rfl hl.1 rfl (Nat.le_of_ble_eq_true rfl) dX12_lag_2 ⟨Nat.le_of_ble_eq_true rfl, Nat.le_of_ble_eq_true rfl⟩) (fun r1 u1 H locs hp1 hW => ?_)
  have hc1 : ((r1.toInt = 1 ∧ (0 ≤ a0.toInt ∧ a0.toInt < (J 13 31).toInt)) ∨ (r1.toInt = 0 ∧ (¬ (0 ≤ a0.toInt ∧ a0.toInt < (J 13 31).toInt)))) := hp1
  clear hp1
  have hW : WB g A s.heap H locs (J, L, I, P, E, N) (sgM g) := hW
  refine lv_if_ne (tgt := 14) hx hb dX12_lag_5 (by decide) (fun c2 => ?_) (fun c2 => ?_)
  · have c2 : ¬ r1.toInt = 0 := tne rfl kp0 c2
    refine lv_aload_n hx hb dX12_lag_14 rfl (lv_at hl 0 rfl) ?_
    refine rg_13_16 C hW (mm_ rfl) tw_1039 dX12_lag_15 ?_
    refine lv_iload_n hx hb dX12_lag_18 rfl (lv_at hl 1 rfl) ?_
    have hin : vp_in a0 10000 := tin rfl (by omega)
    refine ra_116 C hW (mm_ rfl) hin dX12_lag_19 ?_
    refine lv_topi (fun x3 (e3 : x3 = J 116 a0.toNatClampNeg) => ?_)
    have t3 : x3.toInt = (J 116 a0.toNatClampNeg).toInt := by rw [e3]
    refine lv_if_eq (tgt := 30) hx hb dX12_lag_20 (by decide) (fun c4 => ?_) (fun c4 => ?_)
    · have c4 : x3.toInt = 0 := teq rfl kp0 c4
      refine lv_aload_n hx hb dX12_lag_30 rfl (lv_at hl 0 rfl) ?_
      refine rg_13_19 C hW (mm_ rfl) tw_1042 dX12_lag_31 ?_
      refine lv_iload_n hx hb dX12_lag_34 rfl (lv_at hl 1 rfl) ?_
      have hin : vp_in a0 10000 := tin rfl (by omega)
      refine ra_119 C hW (mm_ rfl) hin dX12_lag_35 ?_
      refine lv_topi (fun x5 (e5 : x5 = J 119 a0.toNatClampNeg) => ?_)
      have t5 : x5.toInt = (J 119 a0.toNatClampNeg).toInt := by rw [e5]
      have q5 := hof a0.toNatClampNeg
      have k5 := tcl a0
      refine lv_if_ge (tgt := 44) hx hb dX12_lag_36 (by decide) (fun c6 => ?_) (fun c6 => ?_)
      · have c6 : 0 ≤ x5.toInt := tle kp0 rfl c6
        refine lv_iload_n hx hb dX12_lag_44 rfl (lv_at hl 1 rfl) ?_
        refine lv_aload_n hx hb dX12_lag_45 rfl (lv_at hl 0 rfl) ?_
        refine rg_13_27 C hW (mm_ rfl) tw_1050 dX12_lag_46 ?_
        refine lv_aload_n hx hb dX12_lag_49 rfl (lv_at hl 0 rfl) ?_
        refine rg_13_19 C hW (mm_ rfl) tw_1042 dX12_lag_50 ?_
        refine lv_iload_n hx hb dX12_lag_53 rfl (lv_at hl 1 rfl) ?_
        have hin : vp_in a0 10000 := tin rfl (by omega)
        refine ra_119 C hW (mm_ rfl) hin dX12_lag_54 ?_
        refine lv_topi (fun x7 (e7 : x7 = J 119 a0.toNatClampNeg) => ?_)
        have t7 : x7.toInt = (J 119 a0.toNatClampNeg).toInt := by rw [e7]
        have q7 := hof a0.toNatClampNeg
        have k7 := tcl a0
        have hin : vp_in x7 40 := tin rfl (by omega)
        refine ra_127 C hW (mm_ rfl) hin dX12_lag_55 ?_
        refine lv_topi (fun x8 (e8 : x8 = J 127 x7.toNatClampNeg) => ?_)
        refine lv_isub hx hb dX12_lag_56 ?_
        refine lv_topi (fun x9 (e9 : x9 = a0 - x8) => ?_)
        have hWr : WB g A s.heap H locs (hv J [100] [] J, L, I, P, E, N) (sgM g) := by
          rw [← ag_hvE (J := J) (R := [100]) (F := []) ag_rf]
          exact hW
        subst hQ9
        exact end_i C hr hlocks J hWr (by first | exact Or.inl ⟨by omega, by omega⟩ | exact Or.inr (Or.inl ⟨by omega, by omega⟩) | exact Or.inr (Or.inr (Or.inl ⟨by omega, by omega⟩)) | exact Or.inr (Or.inr (Or.inr (⟨by (simp only [*]), by omega⟩))) | (rcases hc1 with qhc1 | qhc1 <;> first | exact Or.inl ⟨by omega, by omega⟩ | exact Or.inr (Or.inl ⟨by omega, by omega⟩) | exact Or.inr (Or.inr (Or.inl ⟨by omega, by omega⟩)) | exact Or.inr (Or.inr (Or.inr (⟨by (simp only [*]), by omega⟩))) | (exfalso; omega))) dX12_lag_57
      · have c6 : x5.toInt < 0 := tnle kp0 rfl c6
        refine lv_bipush (v := (-9)) hx hb dX12_lag_39 (by decide) ?_
        refine lv_goto (tgt := 57) hx hb dX12_lag_41 (by decide) ?_
        have hWr : WB g A s.heap H locs (hv J [100] [] J, L, I, P, E, N) (sgM g) := by
          rw [← ag_hvE (J := J) (R := [100]) (F := []) ag_rf]
          exact hW
        subst hQ9
        exact end_i C hr hlocks J hWr (by first | exact Or.inr (Or.inr (Or.inl ⟨by decide, by omega⟩)) | exact Or.inr (Or.inr (Or.inr (⟨by (simp only [*]), by omega⟩)))) dX12_lag_57
    · have c4 : ¬ x3.toInt = 0 := tne rfl kp0 c4
      refine lv_aload_n hx hb dX12_lag_23 rfl (lv_at hl 0 rfl) ?_
      refine lv_bipush (v := (-3)) hx hb dX12_lag_24 (by decide) ?_
      refine ci_ C hW (runV (x := (g.2.2.1 13)) (As := [.int (-3)]) (rest := []) (T := ((J, L, I, P, E, N), sgM g)) C hW (c_X12_refuse l g J L I P E N H.size (-3) (show -6 ≤ (-3 : Int32).toInt ∧ (-3 : Int32).toInt ≤ -1 from by (try simp only [kn3]); omega)) mi_X12_refuse tw_1239 (recv_ (T := ((J, L, I, P, E, N), sgM g)) C hW (mm_ rfl) rfl rfl) ⟨rfl, rfl, Nat.le_of_ble_eq_true rfl, Nat.le_of_ble_eq_true rfl⟩ rfl hl.1 rfl (Nat.le_of_ble_eq_true rfl) dX12_lag_26 ⟨Nat.le_of_ble_eq_true rfl, Nat.le_of_ble_eq_true rfl⟩) (fun r10 u10 H locs hp10 hW => ?_)
      have hc10 : ((r10 = (-3))) := hp10
      clear hp10
      have hr10 : r10.toInt = (-3) := by rw [hc10]; exact kn3
      have hW : WB g A s.heap H locs ((hv J [100] [] u10), L, I, P, E, N) (sgM g) := hW
      have hWr : WB g A s.heap H locs (hv J [100] [] (hv J [100] [] u10), L, I, P, E, N) (sgM g) := by
        rw [← ag_hvE (J := J) (R := [100]) (F := []) (ag_hv rfl rfl ag_rf)]
        exact hW
      subst hQ9
      exact end_i C hr hlocks (hv J [100] [] u10) hWr (by first | exact Or.inl ⟨by omega, by omega⟩ | exact Or.inr (Or.inl ⟨by omega, by omega⟩) | exact Or.inr (Or.inr (Or.inl ⟨by omega, by omega⟩)) | exact Or.inr (Or.inr (Or.inr (⟨by (simp only [*]), by omega⟩))) | (rcases hc1 with qhc1 | qhc1 <;> first | exact Or.inl ⟨by omega, by omega⟩ | exact Or.inr (Or.inl ⟨by omega, by omega⟩) | exact Or.inr (Or.inr (Or.inl ⟨by omega, by omega⟩)) | exact Or.inr (Or.inr (Or.inr (⟨by (simp only [*]), by omega⟩))) | (exfalso; omega))) dX12_lag_29
  · have c2 : r1.toInt = 0 := teq rfl kp0 c2
    refine lv_aload_n hx hb dX12_lag_8 rfl (lv_at hl 0 rfl) ?_
    refine lv_iconst (v := (-1)) hx hb dX12_lag_9 (by decide) ?_
    refine ci_ C hW (runV (x := (g.2.2.1 13)) (As := [.int (-1)]) (rest := []) (T := ((J, L, I, P, E, N), sgM g)) C hW (c_X12_refuse l g J L I P E N H.size (-1) (show -6 ≤ (-1 : Int32).toInt ∧ (-1 : Int32).toInt ≤ -1 from by (try simp only [kn1]); omega)) mi_X12_refuse tw_1239 (recv_ (T := ((J, L, I, P, E, N), sgM g)) C hW (mm_ rfl) rfl rfl) ⟨rfl, rfl, Nat.le_of_ble_eq_true rfl, Nat.le_of_ble_eq_true rfl⟩ rfl hl.1 rfl (Nat.le_of_ble_eq_true rfl) dX12_lag_10 ⟨Nat.le_of_ble_eq_true rfl, Nat.le_of_ble_eq_true rfl⟩) (fun r11 u11 H locs hp11 hW => ?_)
    have hc11 : ((r11 = (-1))) := hp11
    clear hp11
    have hr11 : r11.toInt = (-1) := by rw [hc11]; exact kn1
    have hW : WB g A s.heap H locs ((hv J [100] [] u11), L, I, P, E, N) (sgM g) := hW
    have hWr : WB g A s.heap H locs (hv J [100] [] (hv J [100] [] u11), L, I, P, E, N) (sgM g) := by
      rw [← ag_hvE (J := J) (R := [100]) (F := []) (ag_hv rfl rfl ag_rf)]
      exact hW
    subst hQ9
    exact end_i C hr hlocks (hv J [100] [] u11) hWr (by first | exact Or.inl ⟨by omega, by omega⟩ | exact Or.inr (Or.inl ⟨by omega, by omega⟩) | exact Or.inr (Or.inr (Or.inl ⟨by omega, by omega⟩)) | exact Or.inr (Or.inr (Or.inr (⟨by (simp only [*]), by omega⟩))) | (rcases hc1 with qhc1 | qhc1 <;> first | exact Or.inl ⟨by omega, by omega⟩ | exact Or.inr (Or.inl ⟨by omega, by omega⟩) | exact Or.inr (Or.inr (Or.inl ⟨by omega, by omega⟩)) | exact Or.inr (Or.inr (Or.inr (⟨by (simp only [*]), by omega⟩))) | (exfalso; omega))) dX12_lag_13

set_option maxHeartbeats 4000000 in
set_option maxRecDepth 100000 in
theorem c_X12_fresh_e (l : Launch) (g : gG) (J : Nat → Nat → Int32) (L : Nat → Nat → Int64) (I : Nat → Nat → Nat → Int32) (P : Nat → Nat → Nat → Option Nat) (E : Nat → Option Nat) (N : Nat → Nat) (sz : Nat) (a0 : Int32) (hwm : WM J) : Met l yX12_fresh (WS yX12_fresh cX12_fresh 3 (some .int)) (RM (3) 0 0) (PC g [.ref (g.2.2.1 13), .int a0] ((J, L, I, P, E, N), sgM g) sz) (va_Qi (fun (r : Int32) (u : (Nat → Nat → Int32)) => ((r.toInt = (-1) ∧ (¬ (0 ≤ a0.toInt ∧ a0.toInt < (J 13 31).toInt))) ∨ (r.toInt = (-3) ∧ (0 ≤ a0.toInt ∧ a0.toInt < (J 13 31).toInt ∧ ¬ (J 116 a0.toNatClampNeg).toInt = 0)) ∨ (r.toInt = (-9) ∧ (0 ≤ a0.toInt ∧ a0.toInt < (J 13 31).toInt ∧ (J 116 a0.toNatClampNeg).toInt = 0 ∧ (J 119 a0.toNatClampNeg).toInt < 0)) ∨ (r.toInt = 0 ∧ (0 ≤ a0.toInt ∧ a0.toInt < (J 13 31).toInt ∧ (J 116 a0.toNatClampNeg).toInt = 0 ∧ 0 ≤ (J 119 a0.toNatClampNeg).toInt ∧ 0 ≤ (J 128 (J 119 a0.toNatClampNeg).toNatClampNeg).toInt ∧ (J 128 (J 119 a0.toNatClampNeg).toNatClampNeg).toInt ≤ a0.toInt)) ∨ (r.toInt = 0 ∧ (0 ≤ a0.toInt ∧ a0.toInt < (J 13 31).toInt ∧ (J 116 a0.toNatClampNeg).toInt = 0 ∧ 0 ≤ (J 119 a0.toNatClampNeg).toInt ∧ ((J 128 (J 119 a0.toNatClampNeg).toNatClampNeg).toInt < 0 ∨ a0.toInt < (J 128 (J 119 a0.toNatClampNeg).toNatClampNeg).toInt)) ∧ (∃ k : Nat, (k : Int) < a0.toInt ∧ (J 116 k).toInt = 0 ∧ (J 119 k).toInt = (J 119 a0.toNatClampNeg).toInt)) ∨ (r.toInt = 1 ∧ (0 ≤ a0.toInt ∧ a0.toInt < (J 13 31).toInt ∧ (J 116 a0.toNatClampNeg).toInt = 0 ∧ 0 ≤ (J 119 a0.toNatClampNeg).toInt ∧ ((J 128 (J 119 a0.toNatClampNeg).toNatClampNeg).toInt < 0 ∨ a0.toInt < (J 128 (J 119 a0.toNatClampNeg).toNatClampNeg).toInt)) ∧ (∀ k : Nat, (k : Int) < a0.toInt → (J 116 k).toInt = 0 → ¬ (J 119 k).toInt = (J 119 a0.toNatClampNeg).toInt)))) (fun u t => at_ g (FR g ((J, L, I, P, E, N), sgM g) sz) ((hv J [100] [] u, L, I, P, E, N), sgM g) t) (FR g ((J, L, I, P, E, N), sgM g) sz)) 0 0 (FR g ((J, L, I, P, E, N), sgM g) sz) := by
  refine ent (by decide +kernel) (Nat.le_of_ble_eq_true rfl) ?_
  intro p e s m below meth c ls hsz C hW hr hlocks hname hl
  generalize FR g ((J, L, I, P, E, N), sgM g) sz = A at C hW ⊢
  generalize hQ9 : (va_Qi (fun (r : Int32) (u : (Nat → Nat → Int32)) => ((r.toInt = (-1) ∧ (¬ (0 ≤ a0.toInt ∧ a0.toInt < (J 13 31).toInt))) ∨ (r.toInt = (-3) ∧ (0 ≤ a0.toInt ∧ a0.toInt < (J 13 31).toInt ∧ ¬ (J 116 a0.toNatClampNeg).toInt = 0)) ∨ (r.toInt = (-9) ∧ (0 ≤ a0.toInt ∧ a0.toInt < (J 13 31).toInt ∧ (J 116 a0.toNatClampNeg).toInt = 0 ∧ (J 119 a0.toNatClampNeg).toInt < 0)) ∨ (r.toInt = 0 ∧ (0 ≤ a0.toInt ∧ a0.toInt < (J 13 31).toInt ∧ (J 116 a0.toNatClampNeg).toInt = 0 ∧ 0 ≤ (J 119 a0.toNatClampNeg).toInt ∧ 0 ≤ (J 128 (J 119 a0.toNatClampNeg).toNatClampNeg).toInt ∧ (J 128 (J 119 a0.toNatClampNeg).toNatClampNeg).toInt ≤ a0.toInt)) ∨ (r.toInt = 0 ∧ (0 ≤ a0.toInt ∧ a0.toInt < (J 13 31).toInt ∧ (J 116 a0.toNatClampNeg).toInt = 0 ∧ 0 ≤ (J 119 a0.toNatClampNeg).toInt ∧ ((J 128 (J 119 a0.toNatClampNeg).toNatClampNeg).toInt < 0 ∨ a0.toInt < (J 128 (J 119 a0.toNatClampNeg).toNatClampNeg).toInt)) ∧ (∃ k : Nat, (k : Int) < a0.toInt ∧ (J 116 k).toInt = 0 ∧ (J 119 k).toInt = (J 119 a0.toNatClampNeg).toInt)) ∨ (r.toInt = 1 ∧ (0 ≤ a0.toInt ∧ a0.toInt < (J 13 31).toInt ∧ (J 116 a0.toNatClampNeg).toInt = 0 ∧ 0 ≤ (J 119 a0.toNatClampNeg).toInt ∧ ((J 128 (J 119 a0.toNatClampNeg).toNatClampNeg).toInt < 0 ∨ a0.toInt < (J 128 (J 119 a0.toNatClampNeg).toNatClampNeg).toInt)) ∧ (∀ k : Nat, (k : Int) < a0.toInt → (J 116 k).toInt = 0 → ¬ (J 119 k).toInt = (J 119 a0.toNatClampNeg).toInt)))) (fun u t => at_ g A ((hv J [100] [] u, L, I, P, E, N), sgM g) t) A) = Q9
  have hx := C.1.1
  have hb := C.1.2.1
  have hts := C.1.2.2.2.2
  have hW : WB g A s.heap s.heap [] (J, L, I, P, E, N) (sgM g) := hW
  have hl : lv_has ls 3 [(0, .ref (g.2.2.1 13)), (1, .int a0)] := hl
  obtain ⟨H, hH⟩ : ∃ H : Heap, H = s.heap := ⟨_, rfl⟩
  obtain ⟨locs, hlocs⟩ : ∃ q : List Loc, q = [] := ⟨_, rfl⟩
  have hW : WB g A s.heap H locs (J, L, I, P, E, N) (sgM g) := by rw [hH, hlocs]; exact hW
  obtain ⟨⟨hnd1, hnd2, hon, hhm1, hhm2, hhN, hcu1, hcu2, hco1, hco2, hcN⟩, ⟨hrd1, hrd2⟩, ⟨hnw1, hnw2, hns1, hns2, hof⟩, ⟨htm1, htm2, hts_⟩, ⟨had1, had2, hrw1, hrw2, htp1, htp2⟩⟩ := id hwm
  refine start_ hH hlocs ?_
  refine lv_aload_n hx hb dX12_fresh_0 rfl (lv_at hl 0 rfl) ?_
  refine lv_iload_n hx hb dX12_fresh_1 rfl (lv_at hl 1 rfl) ?_
  refine ci_ C hW (runV (x := (g.2.2.1 13)) (As := [.int a0]) (rest := []) (T := ((J, L, I, P, E, N), sgM g)) C hW (c_X12_isPast l g J L I P E N H.size a0 hwm) mi_X12_isPast tw_1326 (recv_ (T := ((J, L, I, P, E, N), sgM g)) C hW (mm_ rfl) rfl rfl) ⟨rfl, rfl, Nat.le_of_ble_eq_true rfl, Nat.le_of_ble_eq_true rfl⟩ rfl hl.1 rfl (Nat.le_of_ble_eq_true rfl) dX12_fresh_2 ⟨Nat.le_of_ble_eq_true rfl, Nat.le_of_ble_eq_true rfl⟩) (fun r1 u1 H locs hp1 hW => ?_)
  have hc1 : ((r1.toInt = 1 ∧ (0 ≤ a0.toInt ∧ a0.toInt < (J 13 31).toInt)) ∨ (r1.toInt = 0 ∧ (¬ (0 ≤ a0.toInt ∧ a0.toInt < (J 13 31).toInt)))) := hp1
  clear hp1
  have hW : WB g A s.heap H locs (J, L, I, P, E, N) (sgM g) := hW
  refine lv_if_ne (tgt := 14) hx hb dX12_fresh_5 (by decide) (fun c2 => ?_) (fun c2 => ?_)
  · have c2 : ¬ r1.toInt = 0 := tne rfl kp0 c2
    refine lv_aload_n hx hb dX12_fresh_14 rfl (lv_at hl 0 rfl) ?_
    refine rg_13_16 C hW (mm_ rfl) tw_1039 dX12_fresh_15 ?_
    refine lv_iload_n hx hb dX12_fresh_18 rfl (lv_at hl 1 rfl) ?_
    have hin : vp_in a0 10000 := tin rfl (by omega)
    refine ra_116 C hW (mm_ rfl) hin dX12_fresh_19 ?_
    refine lv_topi (fun x3 (e3 : x3 = J 116 a0.toNatClampNeg) => ?_)
    have t3 : x3.toInt = (J 116 a0.toNatClampNeg).toInt := by rw [e3]
    refine lv_if_eq (tgt := 30) hx hb dX12_fresh_20 (by decide) (fun c4 => ?_) (fun c4 => ?_)
    · have c4 : x3.toInt = 0 := teq rfl kp0 c4
      refine lv_aload_n hx hb dX12_fresh_30 rfl (lv_at hl 0 rfl) ?_
      refine rg_13_19 C hW (mm_ rfl) tw_1042 dX12_fresh_31 ?_
      refine lv_iload_n hx hb dX12_fresh_34 rfl (lv_at hl 1 rfl) ?_
      have hin : vp_in a0 10000 := tin rfl (by omega)
      refine ra_119 C hW (mm_ rfl) hin dX12_fresh_35 ?_
      refine lv_topi (fun x5 (e5 : x5 = J 119 a0.toNatClampNeg) => ?_)
      have t5 : x5.toInt = (J 119 a0.toNatClampNeg).toInt := by rw [e5]
      have q5 := hof a0.toNatClampNeg
      have k5 := tcl a0
      refine lv_if_ge (tgt := 42) hx hb dX12_fresh_36 (by decide) (fun c6 => ?_) (fun c6 => ?_)
      · have c6 : 0 ≤ x5.toInt := tle kp0 rfl c6
        refine lv_aload_n hx hb dX12_fresh_42 rfl (lv_at hl 0 rfl) ?_
        refine rg_13_28 C hW (mm_ rfl) tw_1051 dX12_fresh_43 ?_
        refine lv_aload_n hx hb dX12_fresh_46 rfl (lv_at hl 0 rfl) ?_
        refine rg_13_19 C hW (mm_ rfl) tw_1042 dX12_fresh_47 ?_
        refine lv_iload_n hx hb dX12_fresh_50 rfl (lv_at hl 1 rfl) ?_
        have hin : vp_in a0 10000 := tin rfl (by omega)
        refine ra_119 C hW (mm_ rfl) hin dX12_fresh_51 ?_
        refine lv_topi (fun x7 (e7 : x7 = J 119 a0.toNatClampNeg) => ?_)
        have t7 : x7.toInt = (J 119 a0.toNatClampNeg).toInt := by rw [e7]
        have q7 := hof a0.toNatClampNeg
        have k7 := tcl a0
        have hin : vp_in x7 40 := tin rfl (by omega)
        refine ra_128 C hW (mm_ rfl) hin dX12_fresh_52 ?_
        refine lv_topi (fun x8 (e8 : x8 = J 128 x7.toNatClampNeg) => ?_)
        have t8 : x8.toInt = (J 128 x7.toNatClampNeg).toInt := by rw [e8]
        have hp8 : x8.toInt = (J 128 (J 119 a0.toNatClampNeg).toNatClampNeg).toInt := by rw [e8, e7]
        refine lv_if_lt (tgt := 73) hx hb dX12_fresh_53 (by decide) (fun c9 => ?_) (fun c9 => ?_)
        · have c9 : x8.toInt < 0 := tlt rfl kp0 c9
          have hpx : (J 128 (J 119 a0.toNatClampNeg).toNatClampNeg).toInt < 0 ∨ a0.toInt < (J 128 (J 119 a0.toNatClampNeg).toNatClampNeg).toInt := (by omega)
          refine lv_iconst (v := 0) hx hb dX12_fresh_73 (by decide) ?_
          refine lv_istore_n (lv' := [(2, .int 0), (0, .ref (g.2.2.1 13)), (1, .int a0)]) hx hb dX12_fresh_74 rfl hl (by decide) rfl (fun ls hl => ?_)
          have loop75 : ∀ (n : Nat) (m2 : Int32) (H : Heap) (locs : List Loc) (ls : Array Slot), (10000 - m2.toInt).toNat < n → 0 ≤ m2.toInt → (∀ k : Nat, (k : Int) < m2.toInt → (J 116 k).toInt = 0 → ¬ (J 119 k).toInt = (J 119 a0.toNatClampNeg).toInt) → WB g A s.heap H locs (J, L, I, P, E, N) (sgM g) → lv_has ls 3 [(2, .int m2), (0, .ref (g.2.2.1 13)), (1, .int a0)] → W p l e (RM (3) 0 0) s m ([.ref (g.2.2.1 13), .int a0] : List Value).toArray below meth c H locs 0 0 (MQ below Q9 ([.ref (g.2.2.1 13), .int a0] : List Value).toArray s 0 0 A) (F0 m 75 ls []) := by
            intro n
            induction n with
            | zero => intro m2 H locs ls hmeas; exact absurd hmeas (Nat.not_lt_zero _)
            | succ n ih =>
              intro m2 H locs ls hmeas hi hno hW hl
              refine lv_iload_n hx hb dX12_fresh_75 rfl (lv_at hl 0 rfl) ?_
              refine lv_iload_n hx hb dX12_fresh_76 rfl (lv_at hl 2 rfl) ?_
              refine lv_icmp_ge (tgt := 112) hx hb dX12_fresh_77 (by decide) (fun c10 => ?_) (fun c10 => ?_)
              · have c10 : a0.toInt ≤ m2.toInt := tle rfl rfl c10
                refine lv_iconst (v := 1) hx hb dX12_fresh_112 (by decide) ?_
                have hWr : WB g A s.heap H locs (hv J [100] [] J, L, I, P, E, N) (sgM g) := by
                  rw [← ag_hvE (J := J) (R := [100]) (F := []) ag_rf]
                  exact hW
                subst hQ9
                exact end_i C hr hlocks J hWr (by first | exact Or.inr (Or.inr (Or.inr (Or.inr (Or.inr (⟨by decide, by omega, show (∀ k : Nat, (k : Int) < a0.toInt → (J 116 k).toInt = 0 → ¬ (J 119 k).toInt = (J 119 a0.toNatClampNeg).toInt) from (by exact fun k hk => hno k (by omega))⟩)))))) dX12_fresh_113
              · have c10 : m2.toInt < a0.toInt := tnle rfl rfl c10
                refine lv_aload_n hx hb dX12_fresh_80 rfl (lv_at hl 1 rfl) ?_
                refine rg_13_16 C hW (mm_ rfl) tw_1039 dX12_fresh_81 ?_
                refine lv_iload_n hx hb dX12_fresh_84 rfl (lv_at hl 0 rfl) ?_
                have hin : vp_in m2 10000 := tin rfl (by omega)
                refine ra_116 C hW (mm_ rfl) hin dX12_fresh_85 ?_
                refine lv_topi (fun x11 (e11 : x11 = J 116 m2.toNatClampNeg) => ?_)
                have t11 : x11.toInt = (J 116 m2.toNatClampNeg).toInt := by rw [e11]
                refine lv_if_ne (tgt := 106) hx hb dX12_fresh_86 (by decide) (fun c12 => ?_) (fun c12 => ?_)
                · have c12 : ¬ x11.toInt = 0 := tne rfl kp0 c12
                  obtain ⟨x13, e13⟩ : ∃ y : Int32, y = m2 + 1 := ⟨_, rfl⟩
                  refine lv_iinc (v := x13) (lv' := [(2, .int x13), (0, .ref (g.2.2.1 13)), (1, .int a0)]) hx hb dX12_fresh_106 hl (k := 0) rfl (by rw [e13]; rfl) (by decide) rfl (fun ls hl => ?_)
                  try have t13 : x13.toInt = m2.toInt + 1 := tadd e13 rfl kp1 (by omega)
                  refine lv_goto (tgt := 75) hx hb dX12_fresh_109 (by decide) ?_
                  refine ih x13 H locs ls ?_ ?_ ?_ hW (lv_sub hl [0, 1, 2] rfl)
                  · show (10000 - x13.toInt).toNat < n
                    omega
                  · show 0 ≤ x13.toInt
                    first | omega | exact hi | assumption
                  · show ∀ k : Nat, (k : Int) < x13.toInt → (J 116 k).toInt = 0 → ¬ (J 119 k).toInt = (J 119 a0.toNatClampNeg).toInt
                    (intro k hk hk2; have h8 := tcl m2; rcases Nat.lt_or_ge k m2.toNatClampNeg with q | q; exact hno k (by omega) hk2; have e9 : k = m2.toNatClampNeg := (by omega); subst e9; omega)
                · have c12 : x11.toInt = 0 := teq rfl kp0 c12
                  refine lv_aload_n hx hb dX12_fresh_89 rfl (lv_at hl 1 rfl) ?_
                  refine rg_13_19 C hW (mm_ rfl) tw_1042 dX12_fresh_90 ?_
                  refine lv_iload_n hx hb dX12_fresh_93 rfl (lv_at hl 0 rfl) ?_
                  have hin : vp_in m2 10000 := tin rfl (by omega)
                  refine ra_119 C hW (mm_ rfl) hin dX12_fresh_94 ?_
                  refine lv_topi (fun x14 (e14 : x14 = J 119 m2.toNatClampNeg) => ?_)
                  have t14 : x14.toInt = (J 119 m2.toNatClampNeg).toInt := by rw [e14]
                  have q14 := hof m2.toNatClampNeg
                  have k14 := tcl m2
                  refine lv_aload_n hx hb dX12_fresh_95 rfl (lv_at hl 1 rfl) ?_
                  refine rg_13_19 C hW (mm_ rfl) tw_1042 dX12_fresh_96 ?_
                  refine lv_iload_n hx hb dX12_fresh_99 rfl (lv_at hl 2 rfl) ?_
                  have hin : vp_in a0 10000 := tin rfl (by omega)
                  refine ra_119 C hW (mm_ rfl) hin dX12_fresh_100 ?_
                  refine lv_topi (fun x15 (e15 : x15 = J 119 a0.toNatClampNeg) => ?_)
                  have t15 : x15.toInt = (J 119 a0.toNatClampNeg).toInt := by rw [e15]
                  have q15 := hof a0.toNatClampNeg
                  have k15 := tcl a0
                  refine lv_icmp_ne (tgt := 106) hx hb dX12_fresh_101 (by decide) (fun c16 => ?_) (fun c16 => ?_)
                  · have c16 : ¬ x14.toInt = x15.toInt := tne rfl rfl c16
                    obtain ⟨x17, e17⟩ : ∃ y : Int32, y = m2 + 1 := ⟨_, rfl⟩
                    refine lv_iinc (v := x17) (lv' := [(2, .int x17), (0, .ref (g.2.2.1 13)), (1, .int a0)]) hx hb dX12_fresh_106 hl (k := 0) rfl (by rw [e17]; rfl) (by decide) rfl (fun ls hl => ?_)
                    try have t17 : x17.toInt = m2.toInt + 1 := tadd e17 rfl kp1 (by omega)
                    refine lv_goto (tgt := 75) hx hb dX12_fresh_109 (by decide) ?_
                    refine ih x17 H locs ls ?_ ?_ ?_ hW (lv_sub hl [0, 1, 2] rfl)
                    · show (10000 - x17.toInt).toNat < n
                      omega
                    · show 0 ≤ x17.toInt
                      first | omega | exact hi | assumption
                    · show ∀ k : Nat, (k : Int) < x17.toInt → (J 116 k).toInt = 0 → ¬ (J 119 k).toInt = (J 119 a0.toNatClampNeg).toInt
                      (intro k hk hk2; have h8 := tcl m2; rcases Nat.lt_or_ge k m2.toNatClampNeg with q | q; exact hno k (by omega) hk2; have e9 : k = m2.toNatClampNeg := (by omega); subst e9; omega)
                  · have c16 : x14.toInt = x15.toInt := teq rfl rfl c16
                    refine lv_iconst (v := 0) hx hb dX12_fresh_104 (by decide) ?_
                    have hWr : WB g A s.heap H locs (hv J [100] [] J, L, I, P, E, N) (sgM g) := by
                      rw [← ag_hvE (J := J) (R := [100]) (F := []) ag_rf]
                      exact hW
                    subst hQ9
                    exact end_i C hr hlocks J hWr (by first | exact Or.inr (Or.inr (Or.inr (Or.inr (Or.inl ⟨by decide, by omega, show (∃ k : Nat, (k : Int) < a0.toInt ∧ (J 116 k).toInt = 0 ∧ (J 119 k).toInt = (J 119 a0.toNatClampNeg).toInt) from (by exact ⟨m2.toNatClampNeg, (by have h8 := tcl m2; omega), by omega, by omega⟩)⟩))))) dX12_fresh_105
          -- into the loop
          refine loop75 ((10000 - (0 : Int32).toInt).toNat + 1) 0 H locs ls ?_ ?_ ?_ hW (lv_sub hl [0, 1, 2] rfl)
          · exact Nat.lt_succ_self _
          · show 0 ≤ (0 : Int32).toInt
            try rw [kp0]
            first | omega | exact hi | assumption
          · show ∀ k : Nat, (k : Int) < (0 : Int32).toInt → (J 116 k).toInt = 0 → ¬ (J 119 k).toInt = (J 119 a0.toNatClampNeg).toInt
            try rw [kp0]
            intro k hk; omega
        · have c9 : 0 ≤ x8.toInt := tnlt rfl kp0 c9
          refine lv_aload_n hx hb dX12_fresh_56 rfl (lv_at hl 0 rfl) ?_
          refine rg_13_28 C hW (mm_ rfl) tw_1051 dX12_fresh_57 ?_
          refine lv_aload_n hx hb dX12_fresh_60 rfl (lv_at hl 0 rfl) ?_
          refine rg_13_19 C hW (mm_ rfl) tw_1042 dX12_fresh_61 ?_
          refine lv_iload_n hx hb dX12_fresh_64 rfl (lv_at hl 1 rfl) ?_
          have hin : vp_in a0 10000 := tin rfl (by omega)
          refine ra_119 C hW (mm_ rfl) hin dX12_fresh_65 ?_
          refine lv_topi (fun x18 (e18 : x18 = J 119 a0.toNatClampNeg) => ?_)
          have t18 : x18.toInt = (J 119 a0.toNatClampNeg).toInt := by rw [e18]
          have q18 := hof a0.toNatClampNeg
          have k18 := tcl a0
          have hin : vp_in x18 40 := tin rfl (by omega)
          refine ra_128 C hW (mm_ rfl) hin dX12_fresh_66 ?_
          refine lv_topi (fun x19 (e19 : x19 = J 128 x18.toNatClampNeg) => ?_)
          have t19 : x19.toInt = (J 128 x18.toNatClampNeg).toInt := by rw [e19]
          have hp19 : x19.toInt = (J 128 (J 119 a0.toNatClampNeg).toNatClampNeg).toInt := by rw [e19, e18]
          refine lv_iload_n hx hb dX12_fresh_67 rfl (lv_at hl 1 rfl) ?_
          refine lv_icmp_gt (tgt := 73) hx hb dX12_fresh_68 (by decide) (fun c20 => ?_) (fun c20 => ?_)
          · have c20 : a0.toInt < x19.toInt := tlt rfl rfl c20
            have hpx : (J 128 (J 119 a0.toNatClampNeg).toNatClampNeg).toInt < 0 ∨ a0.toInt < (J 128 (J 119 a0.toNatClampNeg).toNatClampNeg).toInt := (by omega)
            refine lv_iconst (v := 0) hx hb dX12_fresh_73 (by decide) ?_
            refine lv_istore_n (lv' := [(2, .int 0), (0, .ref (g.2.2.1 13)), (1, .int a0)]) hx hb dX12_fresh_74 rfl hl (by decide) rfl (fun ls hl => ?_)
            have loop75 : ∀ (n : Nat) (m2 : Int32) (H : Heap) (locs : List Loc) (ls : Array Slot), (10000 - m2.toInt).toNat < n → 0 ≤ m2.toInt → (∀ k : Nat, (k : Int) < m2.toInt → (J 116 k).toInt = 0 → ¬ (J 119 k).toInt = (J 119 a0.toNatClampNeg).toInt) → WB g A s.heap H locs (J, L, I, P, E, N) (sgM g) → lv_has ls 3 [(2, .int m2), (0, .ref (g.2.2.1 13)), (1, .int a0)] → W p l e (RM (3) 0 0) s m ([.ref (g.2.2.1 13), .int a0] : List Value).toArray below meth c H locs 0 0 (MQ below Q9 ([.ref (g.2.2.1 13), .int a0] : List Value).toArray s 0 0 A) (F0 m 75 ls []) := by
              intro n
              induction n with
              | zero => intro m2 H locs ls hmeas; exact absurd hmeas (Nat.not_lt_zero _)
              | succ n ih =>
                intro m2 H locs ls hmeas hi hno hW hl
                refine lv_iload_n hx hb dX12_fresh_75 rfl (lv_at hl 0 rfl) ?_
                refine lv_iload_n hx hb dX12_fresh_76 rfl (lv_at hl 2 rfl) ?_
                refine lv_icmp_ge (tgt := 112) hx hb dX12_fresh_77 (by decide) (fun c21 => ?_) (fun c21 => ?_)
                · have c21 : a0.toInt ≤ m2.toInt := tle rfl rfl c21
                  refine lv_iconst (v := 1) hx hb dX12_fresh_112 (by decide) ?_
                  have hWr : WB g A s.heap H locs (hv J [100] [] J, L, I, P, E, N) (sgM g) := by
                    rw [← ag_hvE (J := J) (R := [100]) (F := []) ag_rf]
                    exact hW
                  subst hQ9
                  exact end_i C hr hlocks J hWr (by first | exact Or.inr (Or.inr (Or.inr (Or.inr (Or.inr (⟨by decide, by omega, show (∀ k : Nat, (k : Int) < a0.toInt → (J 116 k).toInt = 0 → ¬ (J 119 k).toInt = (J 119 a0.toNatClampNeg).toInt) from (by exact fun k hk => hno k (by omega))⟩)))))) dX12_fresh_113
                · have c21 : m2.toInt < a0.toInt := tnle rfl rfl c21
                  refine lv_aload_n hx hb dX12_fresh_80 rfl (lv_at hl 1 rfl) ?_
                  refine rg_13_16 C hW (mm_ rfl) tw_1039 dX12_fresh_81 ?_
                  refine lv_iload_n hx hb dX12_fresh_84 rfl (lv_at hl 0 rfl) ?_
                  have hin : vp_in m2 10000 := tin rfl (by omega)
                  refine ra_116 C hW (mm_ rfl) hin dX12_fresh_85 ?_
                  refine lv_topi (fun x22 (e22 : x22 = J 116 m2.toNatClampNeg) => ?_)
                  have t22 : x22.toInt = (J 116 m2.toNatClampNeg).toInt := by rw [e22]
                  refine lv_if_ne (tgt := 106) hx hb dX12_fresh_86 (by decide) (fun c23 => ?_) (fun c23 => ?_)
                  · have c23 : ¬ x22.toInt = 0 := tne rfl kp0 c23
                    obtain ⟨x24, e24⟩ : ∃ y : Int32, y = m2 + 1 := ⟨_, rfl⟩
                    refine lv_iinc (v := x24) (lv' := [(2, .int x24), (0, .ref (g.2.2.1 13)), (1, .int a0)]) hx hb dX12_fresh_106 hl (k := 0) rfl (by rw [e24]; rfl) (by decide) rfl (fun ls hl => ?_)
                    try have t24 : x24.toInt = m2.toInt + 1 := tadd e24 rfl kp1 (by omega)
                    refine lv_goto (tgt := 75) hx hb dX12_fresh_109 (by decide) ?_
                    refine ih x24 H locs ls ?_ ?_ ?_ hW (lv_sub hl [0, 1, 2] rfl)
                    · show (10000 - x24.toInt).toNat < n
                      omega
                    · show 0 ≤ x24.toInt
                      first | omega | exact hi | assumption
                    · show ∀ k : Nat, (k : Int) < x24.toInt → (J 116 k).toInt = 0 → ¬ (J 119 k).toInt = (J 119 a0.toNatClampNeg).toInt
                      (intro k hk hk2; have h8 := tcl m2; rcases Nat.lt_or_ge k m2.toNatClampNeg with q | q; exact hno k (by omega) hk2; have e9 : k = m2.toNatClampNeg := (by omega); subst e9; omega)
                  · have c23 : x22.toInt = 0 := teq rfl kp0 c23
                    refine lv_aload_n hx hb dX12_fresh_89 rfl (lv_at hl 1 rfl) ?_
                    refine rg_13_19 C hW (mm_ rfl) tw_1042 dX12_fresh_90 ?_
                    refine lv_iload_n hx hb dX12_fresh_93 rfl (lv_at hl 0 rfl) ?_
                    have hin : vp_in m2 10000 := tin rfl (by omega)
                    refine ra_119 C hW (mm_ rfl) hin dX12_fresh_94 ?_
                    refine lv_topi (fun x25 (e25 : x25 = J 119 m2.toNatClampNeg) => ?_)
                    have t25 : x25.toInt = (J 119 m2.toNatClampNeg).toInt := by rw [e25]
                    have q25 := hof m2.toNatClampNeg
                    have k25 := tcl m2
                    refine lv_aload_n hx hb dX12_fresh_95 rfl (lv_at hl 1 rfl) ?_
                    refine rg_13_19 C hW (mm_ rfl) tw_1042 dX12_fresh_96 ?_
                    refine lv_iload_n hx hb dX12_fresh_99 rfl (lv_at hl 2 rfl) ?_
                    have hin : vp_in a0 10000 := tin rfl (by omega)
                    refine ra_119 C hW (mm_ rfl) hin dX12_fresh_100 ?_
                    refine lv_topi (fun x26 (e26 : x26 = J 119 a0.toNatClampNeg) => ?_)
                    have t26 : x26.toInt = (J 119 a0.toNatClampNeg).toInt := by rw [e26]
                    have q26 := hof a0.toNatClampNeg
                    have k26 := tcl a0
                    refine lv_icmp_ne (tgt := 106) hx hb dX12_fresh_101 (by decide) (fun c27 => ?_) (fun c27 => ?_)
                    · have c27 : ¬ x25.toInt = x26.toInt := tne rfl rfl c27
                      obtain ⟨x28, e28⟩ : ∃ y : Int32, y = m2 + 1 := ⟨_, rfl⟩
                      refine lv_iinc (v := x28) (lv' := [(2, .int x28), (0, .ref (g.2.2.1 13)), (1, .int a0)]) hx hb dX12_fresh_106 hl (k := 0) rfl (by rw [e28]; rfl) (by decide) rfl (fun ls hl => ?_)
                      try have t28 : x28.toInt = m2.toInt + 1 := tadd e28 rfl kp1 (by omega)
                      refine lv_goto (tgt := 75) hx hb dX12_fresh_109 (by decide) ?_
                      refine ih x28 H locs ls ?_ ?_ ?_ hW (lv_sub hl [0, 1, 2] rfl)
                      · show (10000 - x28.toInt).toNat < n
                        omega
                      · show 0 ≤ x28.toInt
                        first | omega | exact hi | assumption
                      · show ∀ k : Nat, (k : Int) < x28.toInt → (J 116 k).toInt = 0 → ¬ (J 119 k).toInt = (J 119 a0.toNatClampNeg).toInt
                        (intro k hk hk2; have h8 := tcl m2; rcases Nat.lt_or_ge k m2.toNatClampNeg with q | q; exact hno k (by omega) hk2; have e9 : k = m2.toNatClampNeg := (by omega); subst e9; omega)
                    · have c27 : x25.toInt = x26.toInt := teq rfl rfl c27
                      refine lv_iconst (v := 0) hx hb dX12_fresh_104 (by decide) ?_
                      have hWr : WB g A s.heap H locs (hv J [100] [] J, L, I, P, E, N) (sgM g) := by
                        rw [← ag_hvE (J := J) (R := [100]) (F := []) ag_rf]
                        exact hW
                      subst hQ9
                      exact end_i C hr hlocks J hWr (by first | exact Or.inr (Or.inr (Or.inr (Or.inr (Or.inl ⟨by decide, by omega, show (∃ k : Nat, (k : Int) < a0.toInt ∧ (J 116 k).toInt = 0 ∧ (J 119 k).toInt = (J 119 a0.toNatClampNeg).toInt) from (by exact ⟨m2.toNatClampNeg, (by have h8 := tcl m2; omega), by omega, by omega⟩)⟩))))) dX12_fresh_105
            -- into the loop
            refine loop75 ((10000 - (0 : Int32).toInt).toNat + 1) 0 H locs ls ?_ ?_ ?_ hW (lv_sub hl [0, 1, 2] rfl)
            · exact Nat.lt_succ_self _
            · show 0 ≤ (0 : Int32).toInt
              try rw [kp0]
              first | omega | exact hi | assumption
            · show ∀ k : Nat, (k : Int) < (0 : Int32).toInt → (J 116 k).toInt = 0 → ¬ (J 119 k).toInt = (J 119 a0.toNatClampNeg).toInt
              try rw [kp0]
              intro k hk; omega
          · have c20 : x19.toInt ≤ a0.toInt := tnlt rfl rfl c20
            refine lv_iconst (v := 0) hx hb dX12_fresh_71 (by decide) ?_
            have hWr : WB g A s.heap H locs (hv J [100] [] J, L, I, P, E, N) (sgM g) := by
              rw [← ag_hvE (J := J) (R := [100]) (F := []) ag_rf]
              exact hW
            subst hQ9
            exact end_i C hr hlocks J hWr (by first | exact Or.inr (Or.inr (Or.inr (Or.inl ⟨by decide, by omega⟩)))) dX12_fresh_72
      · have c6 : x5.toInt < 0 := tnle kp0 rfl c6
        refine lv_bipush (v := (-9)) hx hb dX12_fresh_39 (by decide) ?_
        have hWr : WB g A s.heap H locs (hv J [100] [] J, L, I, P, E, N) (sgM g) := by
          rw [← ag_hvE (J := J) (R := [100]) (F := []) ag_rf]
          exact hW
        subst hQ9
        exact end_i C hr hlocks J hWr (by first | exact Or.inr (Or.inr (Or.inl ⟨by decide, by omega⟩))) dX12_fresh_41
    · have c4 : ¬ x3.toInt = 0 := tne rfl kp0 c4
      refine lv_aload_n hx hb dX12_fresh_23 rfl (lv_at hl 0 rfl) ?_
      refine lv_bipush (v := (-3)) hx hb dX12_fresh_24 (by decide) ?_
      refine ci_ C hW (runV (x := (g.2.2.1 13)) (As := [.int (-3)]) (rest := []) (T := ((J, L, I, P, E, N), sgM g)) C hW (c_X12_refuse l g J L I P E N H.size (-3) (show -6 ≤ (-3 : Int32).toInt ∧ (-3 : Int32).toInt ≤ -1 from by (try simp only [kn3]); omega)) mi_X12_refuse tw_1239 (recv_ (T := ((J, L, I, P, E, N), sgM g)) C hW (mm_ rfl) rfl rfl) ⟨rfl, rfl, Nat.le_of_ble_eq_true rfl, Nat.le_of_ble_eq_true rfl⟩ rfl hl.1 rfl (Nat.le_of_ble_eq_true rfl) dX12_fresh_26 ⟨Nat.le_of_ble_eq_true rfl, Nat.le_of_ble_eq_true rfl⟩) (fun r29 u29 H locs hp29 hW => ?_)
      have hc29 : ((r29 = (-3))) := hp29
      clear hp29
      have hr29 : r29.toInt = (-3) := by rw [hc29]; exact kn3
      have hW : WB g A s.heap H locs ((hv J [100] [] u29), L, I, P, E, N) (sgM g) := hW
      have hWr : WB g A s.heap H locs (hv J [100] [] (hv J [100] [] u29), L, I, P, E, N) (sgM g) := by
        rw [← ag_hvE (J := J) (R := [100]) (F := []) (ag_hv rfl rfl ag_rf)]
        exact hW
      subst hQ9
      exact end_i C hr hlocks (hv J [100] [] u29) hWr (by first | exact Or.inr (Or.inl ⟨by omega, by omega⟩)) dX12_fresh_29
  · have c2 : r1.toInt = 0 := teq rfl kp0 c2
    refine lv_aload_n hx hb dX12_fresh_8 rfl (lv_at hl 0 rfl) ?_
    refine lv_iconst (v := (-1)) hx hb dX12_fresh_9 (by decide) ?_
    refine ci_ C hW (runV (x := (g.2.2.1 13)) (As := [.int (-1)]) (rest := []) (T := ((J, L, I, P, E, N), sgM g)) C hW (c_X12_refuse l g J L I P E N H.size (-1) (show -6 ≤ (-1 : Int32).toInt ∧ (-1 : Int32).toInt ≤ -1 from by (try simp only [kn1]); omega)) mi_X12_refuse tw_1239 (recv_ (T := ((J, L, I, P, E, N), sgM g)) C hW (mm_ rfl) rfl rfl) ⟨rfl, rfl, Nat.le_of_ble_eq_true rfl, Nat.le_of_ble_eq_true rfl⟩ rfl hl.1 rfl (Nat.le_of_ble_eq_true rfl) dX12_fresh_10 ⟨Nat.le_of_ble_eq_true rfl, Nat.le_of_ble_eq_true rfl⟩) (fun r30 u30 H locs hp30 hW => ?_)
    have hc30 : ((r30 = (-1))) := hp30
    clear hp30
    have hr30 : r30.toInt = (-1) := by rw [hc30]; exact kn1
    have hW : WB g A s.heap H locs ((hv J [100] [] u30), L, I, P, E, N) (sgM g) := hW
    have hWr : WB g A s.heap H locs (hv J [100] [] (hv J [100] [] u30), L, I, P, E, N) (sgM g) := by
      rw [← ag_hvE (J := J) (R := [100]) (F := []) (ag_hv rfl rfl ag_rf)]
      exact hW
    subst hQ9
    exact end_i C hr hlocks (hv J [100] [] u30) hWr (by first | exact Or.inl ⟨by omega, by omega⟩) dX12_fresh_13
