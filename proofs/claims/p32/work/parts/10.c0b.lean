/-- the list's places hold different objects -/
def INJ (E : Nat → Option Nat) (P : Nat → Nat → Nat → Option Nat) (l : Nat) (n : Int) : Prop := ∀ j k : Nat, (j : Int) < n → (k : Int) < n → elt E P l j = elt E P l k → j = k
/-- a field of the list's objects is a row of the reference's -/
def FLD (I : Nat → Nat → Nat → Int32) (E : Nat → Option Nat) (P : Nat → Nat → Nat → Option Nat) (J2 : Nat → Int32) (l ro f : Nat) (n : Int) : Prop := ∀ k : Nat, (k : Int) < n → I ro f (elt E P l k) = J2 k
def ZR (J2 : Nat → Int32) (n : Int) : Prop := ∀ k : Nat, n ≤ (k : Int) → J2 k = 0
section FLDS
variable {I I' : Nat → Nat → Nat → Int32} {E E' : Nat → Option Nat} {P P' : Nat → Nat → Nat → Option Nat} {J2 J2' : Nat → Int32} {l ro f : Nat} {n n' : Int} {dy : List (Nat × Nat)}
/-- who could be raised: the class by a field, the reference by a row of numbers -/
def GN (I : Nat → Nat → Nat → Int32) (E : Nat → Option Nat) (P : Nat → Nat → Nat → Option Nat) (J2 : Nat → Int32) (n c : Int) : Prop := ∀ k : Nat, (k : Int) < n → (0 < (I 6 4 (elt E P 20 k)).toInt ↔ ∃ j : Nat, (j : Int) < c ∧ (J2 j).toInt = k)
end FLDS
set_option maxHeartbeats 4000000 in
set_option maxRecDepth 100000 in
theorem c_X11_node_e (l : Launch) (g : gG) (J : Nat → Nat → Int32) (L : Nat → Nat → Int64) (I : Nat → Nat → Nat → Int32) (P : Nat → Nat → Nat → Option Nat) (E : Nat → Option Nat) (N : Nat → Nat) (dy : List (Nat × Nat)) (sz : Nat) (a0 : Int32) (a1 : Int32) (hwf : WXF g J P E N dy) : Met l yX11_node (WS yX11_node cX11_node 5 (some .int)) (RM (8) 10 20100) (PC g [.ref (g.2.2.1 12), .int a0, .int a1] ((J, L, I, P, E, N), sgX g ++ dy) sz) (va_Qi (fun (r : Int32) (u : (Nat → Nat → Int32) × (Nat → Nat → Nat → Int32) × (Nat → Nat → Nat → Option Nat) × (Nat → Option Nat) × (Nat → Nat) × List (Nat × Nat)) => ((r.toInt = (-1) ∧ (¬ (0 ≤ a0.toInt ∧ a0.toInt < (J 20 2).toInt)) ∧ u.1 20 2 = J 20 2 ∧ (∀ k : Nat, (k : Int) < (J 20 2).toInt → elt (hv1 E [20] u.2.2.2.1) (hv P [6, 30] [] u.2.2.1) 20 k = elt E P 20 k) ∧ u.2.1 6 3 = I 6 3 ∧ u.2.1 6 4 = I 6 4) ∨ (r.toInt = (-4) ∧ (0 ≤ a0.toInt ∧ a0.toInt < (J 20 2).toInt ∧ a1.toInt < 1) ∧ u.1 20 2 = J 20 2 ∧ (∀ k : Nat, (k : Int) < (J 20 2).toInt → elt (hv1 E [20] u.2.2.2.1) (hv P [6, 30] [] u.2.2.1) 20 k = elt E P 20 k) ∧ u.2.1 6 3 = I 6 3 ∧ u.2.1 6 4 = I 6 4) ∨ (r.toInt = (-6) ∧ (0 ≤ a0.toInt ∧ a0.toInt < (J 20 2).toInt ∧ 1 ≤ a1.toInt ∧ (99 < a1.toInt ∨ 20 ≤ (J 20 2).toInt)) ∧ u.1 20 2 = J 20 2 ∧ (∀ k : Nat, (k : Int) < (J 20 2).toInt → elt (hv1 E [20] u.2.2.2.1) (hv P [6, 30] [] u.2.2.1) 20 k = elt E P 20 k) ∧ u.2.1 6 3 = I 6 3 ∧ u.2.1 6 4 = I 6 4) ∨ (r.toInt = (J 20 2).toInt ∧ (0 ≤ a0.toInt ∧ a0.toInt < (J 20 2).toInt ∧ 1 ≤ a1.toInt ∧ a1.toInt ≤ 99 ∧ (J 20 2).toInt ≤ 19) ∧ (u.1 20 2).toInt = (J 20 2).toInt + 1 ∧ (∀ k : Nat, (k : Int) < (J 20 2).toInt → elt (hv1 E [20] u.2.2.2.1) (hv P [6, 30] [] u.2.2.1) 20 k = elt E P 20 k) ∧ (∀ x ∈ dy, x.2 ≠ elt (hv1 E [20] u.2.2.2.1) (hv P [6, 30] [] u.2.2.1) 20 (J 20 2).toNatClampNeg) ∧ (∀ a : Nat, (6, a) ∈ dy → u.2.1 6 3 a = I 6 3 a ∧ u.2.1 6 4 a = I 6 4 a) ∧ (u.2.1 6 3 (elt (hv1 E [20] u.2.2.2.1) (hv P [6, 30] [] u.2.2.1) 20 (J 20 2).toNatClampNeg) = 0 ∧ u.2.1 6 4 (elt (hv1 E [20] u.2.2.2.1) (hv P [6, 30] [] u.2.2.1) 20 (J 20 2).toNatClampNeg) = 0))) ∧ WXF g (hv J [42] [(20, 0), (20, 2)] u.1) (hv P [6, 30] [] u.2.2.1) (hv1 E [20] u.2.2.2.1) u.2.2.2.2.1 u.2.2.2.2.2 ∧ (∀ x ∈ dy, x ∈ u.2.2.2.2.2)) (fun u t => at_ g (FR g ((J, L, I, P, E, N), sgX g ++ dy) sz) ((((hv J [42] [(20, 0), (20, 2)] u.1), L, (hv I [6] [] u.2.1), (hv P [6, 30] [] u.2.2.1), (hv1 E [20] u.2.2.2.1), u.2.2.2.2.1), sgX g ++ u.2.2.2.2.2)) t) (FR g ((J, L, I, P, E, N), sgX g ++ dy) sz)) 10 20100 (FR g ((J, L, I, P, E, N), sgX g ++ dy) sz) := by
  refine ent (by decide +kernel) (Nat.le_of_ble_eq_true rfl) ?_
  intro p e s m below meth c ls hsz C hW hr hlocks hname hl
  generalize FR g ((J, L, I, P, E, N), sgX g ++ dy) sz = A at C hW ⊢
  have hx := C.1.1
  have hb := C.1.2.1
  have hts := C.1.2.2.2.2
  have hl : lv_has ls 5 [(0, .ref (g.2.2.1 12)), (1, .int a0), (2, .int a1)] := hl
  obtain ⟨H, hH⟩ : ∃ H : Heap, H = s.heap := ⟨_, rfl⟩
  obtain ⟨locs, hlocs⟩ : ∃ q : List Loc, q = [] := ⟨_, rfl⟩
  have hW : WB g A s.heap H locs (J, L, I, P, E, N) (sgX g ++ dy) := by rw [hH, hlocs]; exact hW
  refine start_ hH hlocs ?_
  refine lv_aload_n hx hb dX11_node_0 rfl (lv_at hl 0 rfl) ?_
  refine rg_12_0 C hW (mx_ rfl) tw_364 dX11_node_1 ?_
  refine lv_iload_n hx hb dX11_node_4 rfl (lv_at hl 1 rfl) ?_
  refine cq_ C hW (runV (x := (g.2.2.1 4)) (As := [.int a0]) (rest := []) (T := ((J, L, I, P, E, N), sgX g ++ dy)) C hW (c_X3_nodeOf l g J L I P E N dy H.size a0 hwf) mi_X3_nodeOf tw_463 (recv_ (T := ((J, L, I, P, E, N), sgX g ++ dy)) C hW (mx_ rfl) rfl rfl) ⟨rfl, rfl, Nat.le_of_ble_eq_true rfl, Nat.le_of_ble_eq_true rfl⟩ rfl hl.1 rfl (Nat.le_of_ble_eq_true rfl) dX11_node_5 ⟨Nat.le_of_ble_eq_true rfl, Nat.le_of_ble_eq_true rfl⟩) (fun q1 u1 H locs hp1 hW => ?_)
  have hq1 : ((q1 = none ∧ (¬ (0 ≤ a0.toInt ∧ a0.toInt < (J 20 2).toInt))) ∨ (q1 = some (elt E P 20 a0.toNatClampNeg) ∧ (0 ≤ a0.toInt ∧ a0.toInt < (J 20 2).toInt))) := hp1
  clear hp1
  have hW : WB g A s.heap H locs (J, L, I, P, E, N) (sgX g ++ dy) := hW
  rcases hq1 with ⟨rfl, hn1⟩ | ⟨rfl, hs1⟩
  · refine lv_asv (v' := .null) rfl ?_
    refine lv_astore_nN (lv' := [(3, .null), (0, .ref (g.2.2.1 12)), (1, .int a0), (2, .int a1)]) hx hb dX11_node_8 rfl hl (by decide) rfl (fun ls hl => ?_)
    refine lv_aload_nN hx hb dX11_node_9 rfl (lv_at hl 0 rfl) ?_
    refine lv_ifnonnullN hx hb dX11_node_10 ?_
    refine lv_aload_n hx hb dX11_node_13 rfl (lv_at hl 1 rfl) ?_
    refine lv_iconst (v := (-1)) hx hb dX11_node_14 (by decide) ?_
    refine ci_ C hW (runV (x := (g.2.2.1 12)) (As := [.int (-1)]) (rest := []) (T := ((J, L, I, P, E, N), sgX g ++ dy)) C hW (c_X11_refuse l g J L I P E N dy H.size (-1) hwf) mi_X11_refuse tw_411 (recv_ (T := ((J, L, I, P, E, N), sgX g ++ dy)) C hW (mx_ rfl) rfl rfl) ⟨rfl, rfl, Nat.le_of_ble_eq_true rfl, Nat.le_of_ble_eq_true rfl⟩ rfl hl.1 rfl (Nat.le_of_ble_eq_true rfl) dX11_node_15 ⟨Nat.le_of_ble_eq_true rfl, Nat.le_of_ble_eq_true rfl⟩) (fun r2 u2 H locs hp2 hW => ?_)
    have hc2 : ((r2 = (-1))) := hp2
    clear hp2
    have hr2 : r2.toInt = (-1) := by rw [hc2]; exact kn1
    have hW : WB g A s.heap H locs ((hv J [42] [] u2), L, I, P, E, N) (sgX g ++ dy) := hW
    have hJe : (hv J [42] [] u2) = hv J [42] [(20, 0), (20, 2)] (hv J [42] [] u2) := ag_hvE (J := J) (R := [42]) (F := [(20, 0), (20, 2)]) (ag_hv rfl rfl ag_rf)
    have hIe : I = hv I [6] [] I := ag_hvE (J := I) (R := [6]) (F := []) ag_rf
    have hPe : P = hv P [6, 30] [] P := ag_hvE (J := P) (R := [6, 30]) (F := []) ag_rf
    have hEe : E = hv1 E [20] E := hv1_e (R := [20]) (fun _ _ => rfl)
    have hWr : WB g A s.heap H locs (hv J [42] [(20, 0), (20, 2)] (hv J [42] [] u2), L, hv I [6] [] I, hv P [6, 30] [] P, hv1 E [20] E, N) (sgX g ++ dy) := by
      rw [← hJe, ← hIe, ← hPe, ← hEe]; exact hW
    have hwr : WXF g (hv J [42] [(20, 0), (20, 2)] (hv J [42] [] u2)) (hv P [6, 30] [] P) (hv1 E [20] E) N dy := by
      rw [← hJe, ← hPe, ← hEe]; exact hwf
    refine W.widen (k := 10) (n := 20100) (Nat.le_of_ble_eq_true rfl) (Nat.le_of_ble_eq_true rfl) ?_
    exact end_i C hr hlocks ((hv J [42] [] u2), I, P, E, N, dy) hWr ⟨by first | exact Or.inl ⟨by omega, by omega, show J 20 2 = J 20 2 from by first | rfl | (intro k hk; rfl), show (∀ k : Nat, (k : Int) < (J 20 2).toInt → elt E P 20 k = elt E P 20 k) from by first | rfl | (intro k hk; rfl), show I 6 3 = I 6 3 from by first | rfl | (intro k hk; rfl), show I 6 4 = I 6 4 from by first | rfl | (intro k hk; rfl)⟩ | exact Or.inr (Or.inl ⟨by omega, by omega, show J 20 2 = J 20 2 from by first | rfl | (intro k hk; rfl), show (∀ k : Nat, (k : Int) < (J 20 2).toInt → elt E P 20 k = elt E P 20 k) from by first | rfl | (intro k hk; rfl), show I 6 3 = I 6 3 from by first | rfl | (intro k hk; rfl), show I 6 4 = I 6 4 from by first | rfl | (intro k hk; rfl)⟩) | exact Or.inr (Or.inr (Or.inl ⟨by omega, by omega, show J 20 2 = J 20 2 from by first | rfl | (intro k hk; rfl), show (∀ k : Nat, (k : Int) < (J 20 2).toInt → elt E P 20 k = elt E P 20 k) from by first | rfl | (intro k hk; rfl), show I 6 3 = I 6 3 from by first | rfl | (intro k hk; rfl), show I 6 4 = I 6 4 from by first | rfl | (intro k hk; rfl)⟩)) | exact Or.inr (Or.inr (Or.inr (⟨by omega, by omega, show (J 20 2).toInt = (J 20 2).toInt + 1 from by first | rfl | omega | (intro k hk; exact hE@k k hk) | (intro x hx; rw [hF9]; exact @fr x (List.mem_append_right _ hx)) | (intro a ha; have h9 : a ≠ @q := @fr (6, a) (List.mem_append_right _ ha); exact ⟨(show clr I 6 @q 0 6 3 a = I 6 3 a from clr_o _ _ _ h9 _ _), (show clr I 6 @q 0 6 4 a = I 6 4 a from clr_o _ _ _ h9 _ _)⟩) | (rw [hF9]; exact ⟨(show clr I 6 @q 0 6 3 @q = 0 from clr_s _ _ _ _ _), (show clr I 6 @q 0 6 4 @q = 0 from clr_s _ _ _ _ _)⟩), show (∀ k : Nat, (k : Int) < (J 20 2).toInt → elt E P 20 k = elt E P 20 k) from by first | rfl | omega | (intro k hk; exact hE@k k hk) | (intro x hx; rw [hF9]; exact @fr x (List.mem_append_right _ hx)) | (intro a ha; have h9 : a ≠ @q := @fr (6, a) (List.mem_append_right _ ha); exact ⟨(show clr I 6 @q 0 6 3 a = I 6 3 a from clr_o _ _ _ h9 _ _), (show clr I 6 @q 0 6 4 a = I 6 4 a from clr_o _ _ _ h9 _ _)⟩) | (rw [hF9]; exact ⟨(show clr I 6 @q 0 6 3 @q = 0 from clr_s _ _ _ _ _), (show clr I 6 @q 0 6 4 @q = 0 from clr_s _ _ _ _ _)⟩), show (∀ x ∈ dy, x.2 ≠ elt E P 20 (J 20 2).toNatClampNeg) from by first | rfl | omega | (intro k hk; exact hE@k k hk) | (intro x hx; rw [hF9]; exact @fr x (List.mem_append_right _ hx)) | (intro a ha; have h9 : a ≠ @q := @fr (6, a) (List.mem_append_right _ ha); exact ⟨(show clr I 6 @q 0 6 3 a = I 6 3 a from clr_o _ _ _ h9 _ _), (show clr I 6 @q 0 6 4 a = I 6 4 a from clr_o _ _ _ h9 _ _)⟩) | (rw [hF9]; exact ⟨(show clr I 6 @q 0 6 3 @q = 0 from clr_s _ _ _ _ _), (show clr I 6 @q 0 6 4 @q = 0 from clr_s _ _ _ _ _)⟩), show (∀ a : Nat, (6, a) ∈ dy → I 6 3 a = I 6 3 a ∧ I 6 4 a = I 6 4 a) from by first | rfl | omega | (intro k hk; exact hE@k k hk) | (intro x hx; rw [hF9]; exact @fr x (List.mem_append_right _ hx)) | (intro a ha; have h9 : a ≠ @q := @fr (6, a) (List.mem_append_right _ ha); exact ⟨(show clr I 6 @q 0 6 3 a = I 6 3 a from clr_o _ _ _ h9 _ _), (show clr I 6 @q 0 6 4 a = I 6 4 a from clr_o _ _ _ h9 _ _)⟩) | (rw [hF9]; exact ⟨(show clr I 6 @q 0 6 3 @q = 0 from clr_s _ _ _ _ _), (show clr I 6 @q 0 6 4 @q = 0 from clr_s _ _ _ _ _)⟩), show (I 6 3 (elt E P 20 (J 20 2).toNatClampNeg) = 0 ∧ I 6 4 (elt E P 20 (J 20 2).toNatClampNeg) = 0) from by first | rfl | omega | (intro k hk; exact hE@k k hk) | (intro x hx; rw [hF9]; exact @fr x (List.mem_append_right _ hx)) | (intro a ha; have h9 : a ≠ @q := @fr (6, a) (List.mem_append_right _ ha); exact ⟨(show clr I 6 @q 0 6 3 a = I 6 3 a from clr_o _ _ _ h9 _ _), (show clr I 6 @q 0 6 4 a = I 6 4 a from clr_o _ _ _ h9 _ _)⟩) | (rw [hF9]; exact ⟨(show clr I 6 @q 0 6 3 @q = 0 from clr_s _ _ _ _ _), (show clr I 6 @q 0 6 4 @q = 0 from clr_s _ _ _ _ _)⟩)⟩))), hwr, fun x hx => hx⟩ dX11_node_18
  · skip
    obtain ⟨o1, ho1⟩ : ∃ z : Nat, z = elt E P 20 a0.toNatClampNeg := ⟨_, rfl⟩
    have hm1 : (6, o1) ∈ dy := by rw [ho1]; exact (lw_mem (er := 6) hwf.1.1 (show (a0.toNatClampNeg : Int) < (J 20 2).toInt from by have := tcl a0; omega))
    refine lv_asv (v' := .ref o1) (by rw [ho1]; rfl) ?_
    refine lv_astore_n (lv' := [(3, .ref o1), (0, .ref (g.2.2.1 12)), (1, .int a0), (2, .int a1)]) hx hb dX11_node_8 rfl hl (by decide) rfl (fun ls hl => ?_)
    refine lv_aload_n hx hb dX11_node_9 rfl (lv_at hl 0 rfl) ?_
    refine lv_ifnonnull (tgt := 19) hx hb dX11_node_10 (by decide) ?_
    refine lv_iload_n hx hb dX11_node_19 rfl (lv_at hl 3 rfl) ?_
    refine lv_iconst (v := 1) hx hb dX11_node_20 (by decide) ?_
    refine lv_icmp_ge (tgt := 31) hx hb dX11_node_21 (by decide) (fun c3 => ?_) (fun c3 => ?_)
    · have c3 : 1 ≤ a1.toInt := tle kp1 rfl c3
      refine lv_aload_n hx hb dX11_node_31 rfl (lv_at hl 1 rfl) ?_
      refine rg_12_0 C hW (mx_ rfl) tw_364 dX11_node_32 ?_
      refine rg_4_0 C hW (mx_ rfl) tw_233 dX11_node_35 ?_
      refine ci_ C hW (runV (x := (g.2.2.1 20)) (As := []) (rest := []) (T := ((J, L, I, P, E, N), sgX g ++ dy)) C hW (c_Jx4a65c_size_8abf5 l g J L I P E N dy H.size 20 rfl ) mi_Jx4a65c_size_8abf5 tw_485 (recv_ (T := ((J, L, I, P, E, N), sgX g ++ dy)) C hW (mx_ rfl) (cel_list rfl) rfl) ⟨rfl, rfl, Nat.le_of_ble_eq_true rfl, Nat.le_of_ble_eq_true rfl⟩ rfl hl.1 rfl (Nat.le_of_ble_eq_true rfl) dX11_node_38 ⟨Nat.le_of_ble_eq_true rfl, Nat.le_of_ble_eq_true rfl⟩) (fun r4 u4 H locs hp4 hW => ?_)
      have hc4 : ((r4 = J 20 2)) := hp4
      clear hp4
      have hr4 : r4 = J 20 2 := hc4
      refine lv_as (J 20 2) hr4 ?_
      have hW : WB g A s.heap H locs (J, L, I, P, E, N) (sgX g ++ dy) := hW
      refine lv_istore (lv' := [(4, .int (J 20 2)), (3, .ref o1), (0, .ref (g.2.2.1 12)), (1, .int a0), (2, .int a1)]) hx hb dX11_node_41 hl (by decide) rfl (fun ls hl => ?_)
      refine lv_iload_n hx hb dX11_node_43 rfl (lv_at hl 4 rfl) ?_
      refine lv_bipush (v := 99) hx hb dX11_node_44 (by decide) ?_
      refine lv_icmp_gt (tgt := 56) hx hb dX11_node_46 (by decide) (fun c5 => ?_) (fun c5 => ?_)
      · have c5 : 99 < a1.toInt := tlt kp99 rfl c5
        refine lv_aload_n hx hb dX11_node_56 rfl (lv_at hl 2 rfl) ?_
        refine lv_bipush (v := (-6)) hx hb dX11_node_57 (by decide) ?_
        refine ci_ C hW (runV (x := (g.2.2.1 12)) (As := [.int (-6)]) (rest := []) (T := ((J, L, I, P, E, N), sgX g ++ dy)) C hW (c_X11_refuse l g J L I P E N dy H.size (-6) hwf) mi_X11_refuse tw_411 (recv_ (T := ((J, L, I, P, E, N), sgX g ++ dy)) C hW (mx_ rfl) rfl rfl) ⟨rfl, rfl, Nat.le_of_ble_eq_true rfl, Nat.le_of_ble_eq_true rfl⟩ rfl hl.1 rfl (Nat.le_of_ble_eq_true rfl) dX11_node_59 ⟨Nat.le_of_ble_eq_true rfl, Nat.le_of_ble_eq_true rfl⟩) (fun r6 u6 H locs hp6 hW => ?_)
        have hc6 : ((r6 = (-6))) := hp6
        clear hp6
        have hr6 : r6.toInt = (-6) := by rw [hc6]; exact kn6
        have hW : WB g A s.heap H locs ((hv J [42] [] u6), L, I, P, E, N) (sgX g ++ dy) := hW
        have hJe : (hv J [42] [] u6) = hv J [42] [(20, 0), (20, 2)] (hv J [42] [] u6) := ag_hvE (J := J) (R := [42]) (F := [(20, 0), (20, 2)]) (ag_hv rfl rfl ag_rf)
        have hIe : I = hv I [6] [] I := ag_hvE (J := I) (R := [6]) (F := []) ag_rf
        have hPe : P = hv P [6, 30] [] P := ag_hvE (J := P) (R := [6, 30]) (F := []) ag_rf
        have hEe : E = hv1 E [20] E := hv1_e (R := [20]) (fun _ _ => rfl)
        have hWr : WB g A s.heap H locs (hv J [42] [(20, 0), (20, 2)] (hv J [42] [] u6), L, hv I [6] [] I, hv P [6, 30] [] P, hv1 E [20] E, N) (sgX g ++ dy) := by
          rw [← hJe, ← hIe, ← hPe, ← hEe]; exact hW
        have hwr : WXF g (hv J [42] [(20, 0), (20, 2)] (hv J [42] [] u6)) (hv P [6, 30] [] P) (hv1 E [20] E) N dy := by
          rw [← hJe, ← hPe, ← hEe]; exact hwf
        refine W.widen (k := 10) (n := 20100) (Nat.le_of_ble_eq_true rfl) (Nat.le_of_ble_eq_true rfl) ?_
        exact end_i C hr hlocks ((hv J [42] [] u6), I, P, E, N, dy) hWr ⟨by first | exact Or.inl ⟨by omega, by omega, show J 20 2 = J 20 2 from by first | rfl | (intro k hk; rfl), show (∀ k : Nat, (k : Int) < (J 20 2).toInt → elt E P 20 k = elt E P 20 k) from by first | rfl | (intro k hk; rfl), show I 6 3 = I 6 3 from by first | rfl | (intro k hk; rfl), show I 6 4 = I 6 4 from by first | rfl | (intro k hk; rfl)⟩ | exact Or.inr (Or.inl ⟨by omega, by omega, show J 20 2 = J 20 2 from by first | rfl | (intro k hk; rfl), show (∀ k : Nat, (k : Int) < (J 20 2).toInt → elt E P 20 k = elt E P 20 k) from by first | rfl | (intro k hk; rfl), show I 6 3 = I 6 3 from by first | rfl | (intro k hk; rfl), show I 6 4 = I 6 4 from by first | rfl | (intro k hk; rfl)⟩) | exact Or.inr (Or.inr (Or.inl ⟨by omega, by omega, show J 20 2 = J 20 2 from by first | rfl | (intro k hk; rfl), show (∀ k : Nat, (k : Int) < (J 20 2).toInt → elt E P 20 k = elt E P 20 k) from by first | rfl | (intro k hk; rfl), show I 6 3 = I 6 3 from by first | rfl | (intro k hk; rfl), show I 6 4 = I 6 4 from by first | rfl | (intro k hk; rfl)⟩)) | exact Or.inr (Or.inr (Or.inr (⟨by omega, by omega, show (J 20 2).toInt = (J 20 2).toInt + 1 from by first | rfl | omega | (intro k hk; exact hE@k k hk) | (intro x hx; rw [hF9]; exact @fr x (List.mem_append_right _ hx)) | (intro a ha; have h9 : a ≠ @q := @fr (6, a) (List.mem_append_right _ ha); exact ⟨(show clr I 6 @q 0 6 3 a = I 6 3 a from clr_o _ _ _ h9 _ _), (show clr I 6 @q 0 6 4 a = I 6 4 a from clr_o _ _ _ h9 _ _)⟩) | (rw [hF9]; exact ⟨(show clr I 6 @q 0 6 3 @q = 0 from clr_s _ _ _ _ _), (show clr I 6 @q 0 6 4 @q = 0 from clr_s _ _ _ _ _)⟩), show (∀ k : Nat, (k : Int) < (J 20 2).toInt → elt E P 20 k = elt E P 20 k) from by first | rfl | omega | (intro k hk; exact hE@k k hk) | (intro x hx; rw [hF9]; exact @fr x (List.mem_append_right _ hx)) | (intro a ha; have h9 : a ≠ @q := @fr (6, a) (List.mem_append_right _ ha); exact ⟨(show clr I 6 @q 0 6 3 a = I 6 3 a from clr_o _ _ _ h9 _ _), (show clr I 6 @q 0 6 4 a = I 6 4 a from clr_o _ _ _ h9 _ _)⟩) | (rw [hF9]; exact ⟨(show clr I 6 @q 0 6 3 @q = 0 from clr_s _ _ _ _ _), (show clr I 6 @q 0 6 4 @q = 0 from clr_s _ _ _ _ _)⟩), show (∀ x ∈ dy, x.2 ≠ elt E P 20 (J 20 2).toNatClampNeg) from by first | rfl | omega | (intro k hk; exact hE@k k hk) | (intro x hx; rw [hF9]; exact @fr x (List.mem_append_right _ hx)) | (intro a ha; have h9 : a ≠ @q := @fr (6, a) (List.mem_append_right _ ha); exact ⟨(show clr I 6 @q 0 6 3 a = I 6 3 a from clr_o _ _ _ h9 _ _), (show clr I 6 @q 0 6 4 a = I 6 4 a from clr_o _ _ _ h9 _ _)⟩) | (rw [hF9]; exact ⟨(show clr I 6 @q 0 6 3 @q = 0 from clr_s _ _ _ _ _), (show clr I 6 @q 0 6 4 @q = 0 from clr_s _ _ _ _ _)⟩), show (∀ a : Nat, (6, a) ∈ dy → I 6 3 a = I 6 3 a ∧ I 6 4 a = I 6 4 a) from by first | rfl | omega | (intro k hk; exact hE@k k hk) | (intro x hx; rw [hF9]; exact @fr x (List.mem_append_right _ hx)) | (intro a ha; have h9 : a ≠ @q := @fr (6, a) (List.mem_append_right _ ha); exact ⟨(show clr I 6 @q 0 6 3 a = I 6 3 a from clr_o _ _ _ h9 _ _), (show clr I 6 @q 0 6 4 a = I 6 4 a from clr_o _ _ _ h9 _ _)⟩) | (rw [hF9]; exact ⟨(show clr I 6 @q 0 6 3 @q = 0 from clr_s _ _ _ _ _), (show clr I 6 @q 0 6 4 @q = 0 from clr_s _ _ _ _ _)⟩), show (I 6 3 (elt E P 20 (J 20 2).toNatClampNeg) = 0 ∧ I 6 4 (elt E P 20 (J 20 2).toNatClampNeg) = 0) from by first | rfl | omega | (intro k hk; exact hE@k k hk) | (intro x hx; rw [hF9]; exact @fr x (List.mem_append_right _ hx)) | (intro a ha; have h9 : a ≠ @q := @fr (6, a) (List.mem_append_right _ ha); exact ⟨(show clr I 6 @q 0 6 3 a = I 6 3 a from clr_o _ _ _ h9 _ _), (show clr I 6 @q 0 6 4 a = I 6 4 a from clr_o _ _ _ h9 _ _)⟩) | (rw [hF9]; exact ⟨(show clr I 6 @q 0 6 3 @q = 0 from clr_s _ _ _ _ _), (show clr I 6 @q 0 6 4 @q = 0 from clr_s _ _ _ _ _)⟩)⟩))), hwr, fun x hx => hx⟩ dX11_node_62
      · have c5 : a1.toInt ≤ 99 := tnlt kp99 rfl c5
        refine lv_iload hx hb dX11_node_49 (lv_at hl 0 rfl) ?_
        refine lv_bipush (v := 20) hx hb dX11_node_51 (by decide) ?_
        refine lv_icmp_lt (tgt := 63) hx hb dX11_node_53 (by decide) (fun c7 => ?_) (fun c7 => ?_)
        · have c7 : (J 20 2).toInt < 20 := tlt rfl kp20 c7
          refine lv_aload_n hx hb dX11_node_63 rfl (lv_at hl 2 rfl) ?_
          refine rg_12_0 C hW (mx_ rfl) tw_364 dX11_node_64 ?_
          refine rg_4_0 C hW (mx_ rfl) tw_233 dX11_node_67 ?_
          refine g_new (r := 6) (S' := fun q => (J, L, clr I 6 q 0, clr P 6 q none, E, N)) (ci := 6) (fs := [.null, .int 0, .int 0, .int 0, .int 0, .int 0, .int 0, .int 0]) C hW rfl rfl in_X5 tyX5 tyX5_ok tw_486 tw_132 tw_72 (fun j hj => by rcases (show j = 0 ∨ j = 1 ∨ j = 2 ∨ j = 3 ∨ j = 4 ∨ j = 5 ∨ j = 6 ∨ j = 7 by omega) with rfl | rfl | rfl | rfl | rfl | rfl | rfl | rfl <;> rfl) (fun q => by simp only [cel, celc, clr_s] <;> rfl) (fun q r' a h => cel_clr 6 q r' a h) ⟨Nat.le_of_ble_eq_true rfl, Nat.le_of_ble_eq_true rfl⟩ dX11_node_70 (fun q8 H hfr8 hW => ?_)
          rw [List.append_assoc] at hW
          have hW : WB g A s.heap H locs (J, L, (clr I 6 q8 0), (clr P 6 q8 none), E, N) (sgX g ++ (dy ++ [(6, q8)])) := hW
          refine lv_dup hx hb dX11_node_73 rfl ?_
          refine lv_aload_n hx hb dX11_node_74 rfl (lv_at hl 1 rfl) ?_
          refine lv_iload_n hx hb dX11_node_75 rfl (lv_at hl 4 rfl) ?_
          refine lv_iload hx hb dX11_node_76 (lv_at hl 0 rfl) ?_
          refine cv_ C hW (runI (x := q8) (As := [.ref o1, .int a1, .int (J 20 2)]) (rest := [.ref q8, .ref (g.2.2.1 20)]) (T := ((J, L, (clr I 6 q8 0), (clr P 6 q8 none), E, N), sgX g ++ (dy ++ [(6, q8)]))) C hW (c_X5_init l g J L (clr I 6 q8 0) (clr P 6 q8 none) E N (dy ++ [(6, q8)]) H.size q8 (List.mem_append_right _ (List.mem_singleton.mpr rfl)) o1 (List.mem_append_left _ hm1) a1 (J 20 2) ) mi_X5_init tw_487 ⟨rfl, rfl, Nat.le_of_ble_eq_true rfl, Nat.le_of_ble_eq_true rfl⟩ rfl hl.1 rfl (Nat.le_of_ble_eq_true rfl) dX11_node_78 ⟨Nat.le_of_ble_eq_true rfl, Nat.le_of_ble_eq_true rfl⟩) (fun u9 H locs hp9 hW => ?_)
          have hW : WB g A s.heap H locs (J, L, (up3 (up3 (clr I 6 q8 0) 6 1 q8 a1) 6 2 q8 u9), (up3 (clr P 6 q8 none) 6 0 q8 (some o1)), E, N) (sgX g ++ (dy ++ [(6, q8)])) := hW
          have hwf : WXF g J (up3 (clr P 6 q8 none) 6 0 q8 (some o1)) E N (dy ++ [(6, q8)]) := wxf_new (J := J) hwf (fun x hx => hfr8 x (List.mem_append_right _ hx)) (fun r f a h => (up3_a _ _ _ _ h _ _).trans (clr_o _ _ _ h _ _)) (fun _ _ => rfl) ⟨fun _ => Or.inr ⟨_, up3_s _ _ _ _ _, hm1⟩, fun h => absurd h (by decide), fun h => absurd h (by decide), fun h => absurd h (by decide)⟩
          refine ci_ C hW (runV (x := (g.2.2.1 20)) (As := [.ref q8]) (rest := []) (T := ((J, L, (up3 (up3 (clr I 6 q8 0) 6 1 q8 a1) 6 2 q8 u9), (up3 (clr P 6 q8 none) 6 0 q8 (some o1)), E, N), sgX g ++ (dy ++ [(6, q8)]))) C hW (c_Jx4a65c_add_9ea2d l g J L (up3 (up3 (clr I 6 q8 0) 6 1 q8 a1) 6 2 q8 u9) (up3 (clr P 6 q8 none) 6 0 q8 (some o1)) E N (dy ++ [(6, q8)]) H.size 6 20 rfl rfl q8 (List.mem_append_right _ (List.mem_singleton.mpr rfl)) hwf.1.1 (show (J 20 2).toInt ≤ 9999 from by omega)) mi_Jx4a65c_add_9ea2d tw_488 (recv_ (T := ((J, L, (up3 (up3 (clr I 6 q8 0) 6 1 q8 a1) 6 2 q8 u9), (up3 (clr P 6 q8 none) 6 0 q8 (some o1)), E, N), sgX g ++ (dy ++ [(6, q8)]))) C hW (mx_ rfl) (cel_list rfl) rfl) ⟨rfl, rfl, Nat.le_of_ble_eq_true rfl, Nat.le_of_ble_eq_true rfl⟩ rfl hl.1 rfl (Nat.le_of_ble_eq_true rfl) dX11_node_81 ⟨Nat.le_of_ble_eq_true rfl, Nat.le_of_ble_eq_true rfl⟩) (fun r10 u10 H locs hp10 hW => ?_)
          obtain ⟨hc10, hG10, hL10, hE10, hF10⟩ := hp10
          have hlo10 : 0 ≤ (J 20 2).toInt := (hwf.1.1).1
          have ht10 : (J 20 2 + 1).toInt = (J 20 2).toInt + 1 := tadd rfl rfl kp1 (by omega)
          have hW : WB g A s.heap H locs ((up2 (up2 J 20 0 u10.1) 20 2 (J 20 2 + 1)), L, (up3 (up3 (clr I 6 q8 0) 6 1 q8 a1) 6 2 q8 u9), (hv (up3 (clr P 6 q8 none) 6 0 q8 (some o1)) [30] [] u10.2.1), (up1 E 20 u10.2.2.1), u10.2.2.2.1) (sgX g ++ u10.2.2.2.2) := hW
          have hwf : WXF g (up2 (up2 J 20 0 u10.1) 20 2 (J 20 2 + 1)) (hv (up3 (clr P 6 q8 none) 6 0 q8 (some o1)) [30] [] u10.2.1) (up1 E 20 u10.2.2.1) u10.2.2.2.1 u10.2.2.2.2 := wxf_add20 hwf hG10 hL10
          refine lv_pop hx hb dX11_node_84 rfl ?_
          refine lv_iload hx hb dX11_node_85 (lv_at hl 0 rfl) ?_
          have hF9 : elt (up1 E 20 u10.2.2.1) (hv (up3 (clr P 6 q8 none) 6 0 q8 (some o1)) [30] [] u10.2.1) 20 (J 20 2).toNatClampNeg = q8 := hF10
          have hJe : (up2 (up2 J 20 0 u10.1) 20 2 (J 20 2 + 1)) = hv J [42] [(20, 0), (20, 2)] (up2 (up2 J 20 0 u10.1) 20 2 (J 20 2 + 1)) := ag_hvE (J := J) (R := [42]) (F := [(20, 0), (20, 2)]) (ag_up (Or.inr rfl) (ag_up (Or.inr rfl) ag_rf))
          have hIe : (up3 (up3 (clr I 6 q8 0) 6 1 q8 a1) 6 2 q8 u9) = hv I [6] [] (up3 (up3 (clr I 6 q8 0) 6 1 q8 a1) 6 2 q8 u9) := ag_hvE (J := I) (R := [6]) (F := []) (ag_up3 (Or.inl rfl) (ag_up3 (Or.inl rfl) (ag_clr rfl ag_rf)))
          have hPe : (hv (up3 (clr P 6 q8 none) 6 0 q8 (some o1)) [30] [] u10.2.1) = hv P [6, 30] [] (hv (up3 (clr P 6 q8 none) 6 0 q8 (some o1)) [30] [] u10.2.1) := ag_hvE (J := P) (R := [6, 30]) (F := []) (ag_hv rfl rfl (ag_up3 (Or.inl rfl) (ag_clr rfl ag_rf)))
          have hEe : (up1 E 20 u10.2.2.1) = hv1 E [20] (up1 E 20 u10.2.2.1) := hv1_e (R := [20]) (up1_ag rfl (fun _ _ => rfl))
          have hWr : WB g A s.heap H locs (hv J [42] [(20, 0), (20, 2)] (up2 (up2 J 20 0 u10.1) 20 2 (J 20 2 + 1)), L, hv I [6] [] (up3 (up3 (clr I 6 q8 0) 6 1 q8 a1) 6 2 q8 u9), hv P [6, 30] [] (hv (up3 (clr P 6 q8 none) 6 0 q8 (some o1)) [30] [] u10.2.1), hv1 E [20] (up1 E 20 u10.2.2.1), u10.2.2.2.1) (sgX g ++ u10.2.2.2.2) := by
            rw [← hJe, ← hIe, ← hPe, ← hEe]; exact hW
          have hwr : WXF g (hv J [42] [(20, 0), (20, 2)] (up2 (up2 J 20 0 u10.1) 20 2 (J 20 2 + 1))) (hv P [6, 30] [] (hv (up3 (clr P 6 q8 none) 6 0 q8 (some o1)) [30] [] u10.2.1)) (hv1 E [20] (up1 E 20 u10.2.2.1)) u10.2.2.2.1 u10.2.2.2.2 := by
            rw [← hJe, ← hPe, ← hEe]; exact hwf
          refine W.widen (k := 10) (n := 20100) (Nat.le_of_ble_eq_true rfl) (Nat.le_of_ble_eq_true rfl) ?_
          exact end_i C hr hlocks ((up2 (up2 J 20 0 u10.1) 20 2 (J 20 2 + 1)), (up3 (up3 (clr I 6 q8 0) 6 1 q8 a1) 6 2 q8 u9), (hv (up3 (clr P 6 q8 none) 6 0 q8 (some o1)) [30] [] u10.2.1), (up1 E 20 u10.2.2.1), u10.2.2.2.1, u10.2.2.2.2) hWr ⟨by first | exact Or.inl ⟨by omega, by omega, show J 20 2 + 1 = J 20 2 from by first | rfl | (intro k hk; rfl), show (∀ k : Nat, (k : Int) < (J 20 2).toInt → elt (up1 E 20 u10.2.2.1) (hv (up3 (clr P 6 q8 none) 6 0 q8 (some o1)) [30] [] u10.2.1) 20 k = elt E P 20 k) from by first | rfl | (intro k hk; rfl), show (up3 (up3 (clr I 6 q8 0) 6 1 q8 a1) 6 2 q8 u9) 6 3 = I 6 3 from by first | rfl | (intro k hk; rfl), show (up3 (up3 (clr I 6 q8 0) 6 1 q8 a1) 6 2 q8 u9) 6 4 = I 6 4 from by first | rfl | (intro k hk; rfl)⟩ | exact Or.inr (Or.inl ⟨by omega, by omega, show J 20 2 + 1 = J 20 2 from by first | rfl | (intro k hk; rfl), show (∀ k : Nat, (k : Int) < (J 20 2).toInt → elt (up1 E 20 u10.2.2.1) (hv (up3 (clr P 6 q8 none) 6 0 q8 (some o1)) [30] [] u10.2.1) 20 k = elt E P 20 k) from by first | rfl | (intro k hk; rfl), show (up3 (up3 (clr I 6 q8 0) 6 1 q8 a1) 6 2 q8 u9) 6 3 = I 6 3 from by first | rfl | (intro k hk; rfl), show (up3 (up3 (clr I 6 q8 0) 6 1 q8 a1) 6 2 q8 u9) 6 4 = I 6 4 from by first | rfl | (intro k hk; rfl)⟩) | exact Or.inr (Or.inr (Or.inl ⟨by omega, by omega, show J 20 2 + 1 = J 20 2 from by first | rfl | (intro k hk; rfl), show (∀ k : Nat, (k : Int) < (J 20 2).toInt → elt (up1 E 20 u10.2.2.1) (hv (up3 (clr P 6 q8 none) 6 0 q8 (some o1)) [30] [] u10.2.1) 20 k = elt E P 20 k) from by first | rfl | (intro k hk; rfl), show (up3 (up3 (clr I 6 q8 0) 6 1 q8 a1) 6 2 q8 u9) 6 3 = I 6 3 from by first | rfl | (intro k hk; rfl), show (up3 (up3 (clr I 6 q8 0) 6 1 q8 a1) 6 2 q8 u9) 6 4 = I 6 4 from by first | rfl | (intro k hk; rfl)⟩)) | exact Or.inr (Or.inr (Or.inr (⟨by omega, by omega, show (J 20 2 + 1).toInt = (J 20 2).toInt + 1 from by first | rfl | omega | (intro k hk; exact hE10 k hk) | (intro x hx; rw [hF9]; exact hfr8 x (List.mem_append_right _ hx)) | (intro a ha; have h9 : a ≠ q8 := hfr8 (6, a) (List.mem_append_right _ ha); exact ⟨(show clr I 6 q8 0 6 3 a = I 6 3 a from clr_o _ _ _ h9 _ _), (show clr I 6 q8 0 6 4 a = I 6 4 a from clr_o _ _ _ h9 _ _)⟩) | (rw [hF9]; exact ⟨(show clr I 6 q8 0 6 3 q8 = 0 from clr_s _ _ _ _ _), (show clr I 6 q8 0 6 4 q8 = 0 from clr_s _ _ _ _ _)⟩), show (∀ k : Nat, (k : Int) < (J 20 2).toInt → elt (up1 E 20 u10.2.2.1) (hv (up3 (clr P 6 q8 none) 6 0 q8 (some o1)) [30] [] u10.2.1) 20 k = elt E P 20 k) from by first | rfl | omega | (intro k hk; exact hE10 k hk) | (intro x hx; rw [hF9]; exact hfr8 x (List.mem_append_right _ hx)) | (intro a ha; have h9 : a ≠ q8 := hfr8 (6, a) (List.mem_append_right _ ha); exact ⟨(show clr I 6 q8 0 6 3 a = I 6 3 a from clr_o _ _ _ h9 _ _), (show clr I 6 q8 0 6 4 a = I 6 4 a from clr_o _ _ _ h9 _ _)⟩) | (rw [hF9]; exact ⟨(show clr I 6 q8 0 6 3 q8 = 0 from clr_s _ _ _ _ _), (show clr I 6 q8 0 6 4 q8 = 0 from clr_s _ _ _ _ _)⟩), show (∀ x ∈ dy, x.2 ≠ elt (up1 E 20 u10.2.2.1) (hv (up3 (clr P 6 q8 none) 6 0 q8 (some o1)) [30] [] u10.2.1) 20 (J 20 2).toNatClampNeg) from by first | rfl | omega | (intro k hk; exact hE10 k hk) | (intro x hx; rw [hF9]; exact hfr8 x (List.mem_append_right _ hx)) | (intro a ha; have h9 : a ≠ q8 := hfr8 (6, a) (List.mem_append_right _ ha); exact ⟨(show clr I 6 q8 0 6 3 a = I 6 3 a from clr_o _ _ _ h9 _ _), (show clr I 6 q8 0 6 4 a = I 6 4 a from clr_o _ _ _ h9 _ _)⟩) | (rw [hF9]; exact ⟨(show clr I 6 q8 0 6 3 q8 = 0 from clr_s _ _ _ _ _), (show clr I 6 q8 0 6 4 q8 = 0 from clr_s _ _ _ _ _)⟩), show (∀ a : Nat, (6, a) ∈ dy → (up3 (up3 (clr I 6 q8 0) 6 1 q8 a1) 6 2 q8 u9) 6 3 a = I 6 3 a ∧ (up3 (up3 (clr I 6 q8 0) 6 1 q8 a1) 6 2 q8 u9) 6 4 a = I 6 4 a) from by first | rfl | omega | (intro k hk; exact hE10 k hk) | (intro x hx; rw [hF9]; exact hfr8 x (List.mem_append_right _ hx)) | (intro a ha; have h9 : a ≠ q8 := hfr8 (6, a) (List.mem_append_right _ ha); exact ⟨(show clr I 6 q8 0 6 3 a = I 6 3 a from clr_o _ _ _ h9 _ _), (show clr I 6 q8 0 6 4 a = I 6 4 a from clr_o _ _ _ h9 _ _)⟩) | (rw [hF9]; exact ⟨(show clr I 6 q8 0 6 3 q8 = 0 from clr_s _ _ _ _ _), (show clr I 6 q8 0 6 4 q8 = 0 from clr_s _ _ _ _ _)⟩), show ((up3 (up3 (clr I 6 q8 0) 6 1 q8 a1) 6 2 q8 u9) 6 3 (elt (up1 E 20 u10.2.2.1) (hv (up3 (clr P 6 q8 none) 6 0 q8 (some o1)) [30] [] u10.2.1) 20 (J 20 2).toNatClampNeg) = 0 ∧ (up3 (up3 (clr I 6 q8 0) 6 1 q8 a1) 6 2 q8 u9) 6 4 (elt (up1 E 20 u10.2.2.1) (hv (up3 (clr P 6 q8 none) 6 0 q8 (some o1)) [30] [] u10.2.1) 20 (J 20 2).toNatClampNeg) = 0) from by first | rfl | omega | (intro k hk; exact hE10 k hk) | (intro x hx; rw [hF9]; exact hfr8 x (List.mem_append_right _ hx)) | (intro a ha; have h9 : a ≠ q8 := hfr8 (6, a) (List.mem_append_right _ ha); exact ⟨(show clr I 6 q8 0 6 3 a = I 6 3 a from clr_o _ _ _ h9 _ _), (show clr I 6 q8 0 6 4 a = I 6 4 a from clr_o _ _ _ h9 _ _)⟩) | (rw [hF9]; exact ⟨(show clr I 6 q8 0 6 3 q8 = 0 from clr_s _ _ _ _ _), (show clr I 6 q8 0 6 4 q8 = 0 from clr_s _ _ _ _ _)⟩)⟩))), hwr, fun x hx => hG10.1 x ((fun x hx => List.mem_append_left _ ((fun x hx => hx) x hx)) x hx)⟩ dX11_node_87
        · have c7 : 20 ≤ (J 20 2).toInt := tnlt rfl kp20 c7
          refine lv_aload_n hx hb dX11_node_56 rfl (lv_at hl 2 rfl) ?_
          refine lv_bipush (v := (-6)) hx hb dX11_node_57 (by decide) ?_
          refine ci_ C hW (runV (x := (g.2.2.1 12)) (As := [.int (-6)]) (rest := []) (T := ((J, L, I, P, E, N), sgX g ++ dy)) C hW (c_X11_refuse l g J L I P E N dy H.size (-6) hwf) mi_X11_refuse tw_411 (recv_ (T := ((J, L, I, P, E, N), sgX g ++ dy)) C hW (mx_ rfl) rfl rfl) ⟨rfl, rfl, Nat.le_of_ble_eq_true rfl, Nat.le_of_ble_eq_true rfl⟩ rfl hl.1 rfl (Nat.le_of_ble_eq_true rfl) dX11_node_59 ⟨Nat.le_of_ble_eq_true rfl, Nat.le_of_ble_eq_true rfl⟩) (fun r11 u11 H locs hp11 hW => ?_)
          have hc11 : ((r11 = (-6))) := hp11
          clear hp11
          have hr11 : r11.toInt = (-6) := by rw [hc11]; exact kn6
          have hW : WB g A s.heap H locs ((hv J [42] [] u11), L, I, P, E, N) (sgX g ++ dy) := hW
          have hJe : (hv J [42] [] u11) = hv J [42] [(20, 0), (20, 2)] (hv J [42] [] u11) := ag_hvE (J := J) (R := [42]) (F := [(20, 0), (20, 2)]) (ag_hv rfl rfl ag_rf)
          have hIe : I = hv I [6] [] I := ag_hvE (J := I) (R := [6]) (F := []) ag_rf
          have hPe : P = hv P [6, 30] [] P := ag_hvE (J := P) (R := [6, 30]) (F := []) ag_rf
          have hEe : E = hv1 E [20] E := hv1_e (R := [20]) (fun _ _ => rfl)
          have hWr : WB g A s.heap H locs (hv J [42] [(20, 0), (20, 2)] (hv J [42] [] u11), L, hv I [6] [] I, hv P [6, 30] [] P, hv1 E [20] E, N) (sgX g ++ dy) := by
            rw [← hJe, ← hIe, ← hPe, ← hEe]; exact hW
          have hwr : WXF g (hv J [42] [(20, 0), (20, 2)] (hv J [42] [] u11)) (hv P [6, 30] [] P) (hv1 E [20] E) N dy := by
            rw [← hJe, ← hPe, ← hEe]; exact hwf
          refine W.widen (k := 10) (n := 20100) (Nat.le_of_ble_eq_true rfl) (Nat.le_of_ble_eq_true rfl) ?_
          exact end_i C hr hlocks ((hv J [42] [] u11), I, P, E, N, dy) hWr ⟨by first | exact Or.inl ⟨by omega, by omega, show J 20 2 = J 20 2 from by first | rfl | (intro k hk; rfl), show (∀ k : Nat, (k : Int) < (J 20 2).toInt → elt E P 20 k = elt E P 20 k) from by first | rfl | (intro k hk; rfl), show I 6 3 = I 6 3 from by first | rfl | (intro k hk; rfl), show I 6 4 = I 6 4 from by first | rfl | (intro k hk; rfl)⟩ | exact Or.inr (Or.inl ⟨by omega, by omega, show J 20 2 = J 20 2 from by first | rfl | (intro k hk; rfl), show (∀ k : Nat, (k : Int) < (J 20 2).toInt → elt E P 20 k = elt E P 20 k) from by first | rfl | (intro k hk; rfl), show I 6 3 = I 6 3 from by first | rfl | (intro k hk; rfl), show I 6 4 = I 6 4 from by first | rfl | (intro k hk; rfl)⟩) | exact Or.inr (Or.inr (Or.inl ⟨by omega, by omega, show J 20 2 = J 20 2 from by first | rfl | (intro k hk; rfl), show (∀ k : Nat, (k : Int) < (J 20 2).toInt → elt E P 20 k = elt E P 20 k) from by first | rfl | (intro k hk; rfl), show I 6 3 = I 6 3 from by first | rfl | (intro k hk; rfl), show I 6 4 = I 6 4 from by first | rfl | (intro k hk; rfl)⟩)) | exact Or.inr (Or.inr (Or.inr (⟨by omega, by omega, show (J 20 2).toInt = (J 20 2).toInt + 1 from by first | rfl | omega | (intro k hk; exact hE@k k hk) | (intro x hx; rw [hF9]; exact @fr x (List.mem_append_right _ hx)) | (intro a ha; have h9 : a ≠ @q := @fr (6, a) (List.mem_append_right _ ha); exact ⟨(show clr I 6 @q 0 6 3 a = I 6 3 a from clr_o _ _ _ h9 _ _), (show clr I 6 @q 0 6 4 a = I 6 4 a from clr_o _ _ _ h9 _ _)⟩) | (rw [hF9]; exact ⟨(show clr I 6 @q 0 6 3 @q = 0 from clr_s _ _ _ _ _), (show clr I 6 @q 0 6 4 @q = 0 from clr_s _ _ _ _ _)⟩), show (∀ k : Nat, (k : Int) < (J 20 2).toInt → elt E P 20 k = elt E P 20 k) from by first | rfl | omega | (intro k hk; exact hE@k k hk) | (intro x hx; rw [hF9]; exact @fr x (List.mem_append_right _ hx)) | (intro a ha; have h9 : a ≠ @q := @fr (6, a) (List.mem_append_right _ ha); exact ⟨(show clr I 6 @q 0 6 3 a = I 6 3 a from clr_o _ _ _ h9 _ _), (show clr I 6 @q 0 6 4 a = I 6 4 a from clr_o _ _ _ h9 _ _)⟩) | (rw [hF9]; exact ⟨(show clr I 6 @q 0 6 3 @q = 0 from clr_s _ _ _ _ _), (show clr I 6 @q 0 6 4 @q = 0 from clr_s _ _ _ _ _)⟩), show (∀ x ∈ dy, x.2 ≠ elt E P 20 (J 20 2).toNatClampNeg) from by first | rfl | omega | (intro k hk; exact hE@k k hk) | (intro x hx; rw [hF9]; exact @fr x (List.mem_append_right _ hx)) | (intro a ha; have h9 : a ≠ @q := @fr (6, a) (List.mem_append_right _ ha); exact ⟨(show clr I 6 @q 0 6 3 a = I 6 3 a from clr_o _ _ _ h9 _ _), (show clr I 6 @q 0 6 4 a = I 6 4 a from clr_o _ _ _ h9 _ _)⟩) | (rw [hF9]; exact ⟨(show clr I 6 @q 0 6 3 @q = 0 from clr_s _ _ _ _ _), (show clr I 6 @q 0 6 4 @q = 0 from clr_s _ _ _ _ _)⟩), show (∀ a : Nat, (6, a) ∈ dy → I 6 3 a = I 6 3 a ∧ I 6 4 a = I 6 4 a) from by first | rfl | omega | (intro k hk; exact hE@k k hk) | (intro x hx; rw [hF9]; exact @fr x (List.mem_append_right _ hx)) | (intro a ha; have h9 : a ≠ @q := @fr (6, a) (List.mem_append_right _ ha); exact ⟨(show clr I 6 @q 0 6 3 a = I 6 3 a from clr_o _ _ _ h9 _ _), (show clr I 6 @q 0 6 4 a = I 6 4 a from clr_o _ _ _ h9 _ _)⟩) | (rw [hF9]; exact ⟨(show clr I 6 @q 0 6 3 @q = 0 from clr_s _ _ _ _ _), (show clr I 6 @q 0 6 4 @q = 0 from clr_s _ _ _ _ _)⟩), show (I 6 3 (elt E P 20 (J 20 2).toNatClampNeg) = 0 ∧ I 6 4 (elt E P 20 (J 20 2).toNatClampNeg) = 0) from by first | rfl | omega | (intro k hk; exact hE@k k hk) | (intro x hx; rw [hF9]; exact @fr x (List.mem_append_right _ hx)) | (intro a ha; have h9 : a ≠ @q := @fr (6, a) (List.mem_append_right _ ha); exact ⟨(show clr I 6 @q 0 6 3 a = I 6 3 a from clr_o _ _ _ h9 _ _), (show clr I 6 @q 0 6 4 a = I 6 4 a from clr_o _ _ _ h9 _ _)⟩) | (rw [hF9]; exact ⟨(show clr I 6 @q 0 6 3 @q = 0 from clr_s _ _ _ _ _), (show clr I 6 @q 0 6 4 @q = 0 from clr_s _ _ _ _ _)⟩)⟩))), hwr, fun x hx => hx⟩ dX11_node_62
    · have c3 : a1.toInt < 1 := tnle kp1 rfl c3
      refine lv_aload_n hx hb dX11_node_24 rfl (lv_at hl 1 rfl) ?_
      refine lv_bipush (v := (-4)) hx hb dX11_node_25 (by decide) ?_
      refine ci_ C hW (runV (x := (g.2.2.1 12)) (As := [.int (-4)]) (rest := []) (T := ((J, L, I, P, E, N), sgX g ++ dy)) C hW (c_X11_refuse l g J L I P E N dy H.size (-4) hwf) mi_X11_refuse tw_411 (recv_ (T := ((J, L, I, P, E, N), sgX g ++ dy)) C hW (mx_ rfl) rfl rfl) ⟨rfl, rfl, Nat.le_of_ble_eq_true rfl, Nat.le_of_ble_eq_true rfl⟩ rfl hl.1 rfl (Nat.le_of_ble_eq_true rfl) dX11_node_27 ⟨Nat.le_of_ble_eq_true rfl, Nat.le_of_ble_eq_true rfl⟩) (fun r12 u12 H locs hp12 hW => ?_)
      have hc12 : ((r12 = (-4))) := hp12
      clear hp12
      have hr12 : r12.toInt = (-4) := by rw [hc12]; exact kn4
      have hW : WB g A s.heap H locs ((hv J [42] [] u12), L, I, P, E, N) (sgX g ++ dy) := hW
      have hJe : (hv J [42] [] u12) = hv J [42] [(20, 0), (20, 2)] (hv J [42] [] u12) := ag_hvE (J := J) (R := [42]) (F := [(20, 0), (20, 2)]) (ag_hv rfl rfl ag_rf)
      have hIe : I = hv I [6] [] I := ag_hvE (J := I) (R := [6]) (F := []) ag_rf
      have hPe : P = hv P [6, 30] [] P := ag_hvE (J := P) (R := [6, 30]) (F := []) ag_rf
      have hEe : E = hv1 E [20] E := hv1_e (R := [20]) (fun _ _ => rfl)
      have hWr : WB g A s.heap H locs (hv J [42] [(20, 0), (20, 2)] (hv J [42] [] u12), L, hv I [6] [] I, hv P [6, 30] [] P, hv1 E [20] E, N) (sgX g ++ dy) := by
        rw [← hJe, ← hIe, ← hPe, ← hEe]; exact hW
      have hwr : WXF g (hv J [42] [(20, 0), (20, 2)] (hv J [42] [] u12)) (hv P [6, 30] [] P) (hv1 E [20] E) N dy := by
        rw [← hJe, ← hPe, ← hEe]; exact hwf
      refine W.widen (k := 10) (n := 20100) (Nat.le_of_ble_eq_true rfl) (Nat.le_of_ble_eq_true rfl) ?_
      exact end_i C hr hlocks ((hv J [42] [] u12), I, P, E, N, dy) hWr ⟨by first | exact Or.inl ⟨by omega, by omega, show J 20 2 = J 20 2 from by first | rfl | (intro k hk; rfl), show (∀ k : Nat, (k : Int) < (J 20 2).toInt → elt E P 20 k = elt E P 20 k) from by first | rfl | (intro k hk; rfl), show I 6 3 = I 6 3 from by first | rfl | (intro k hk; rfl), show I 6 4 = I 6 4 from by first | rfl | (intro k hk; rfl)⟩ | exact Or.inr (Or.inl ⟨by omega, by omega, show J 20 2 = J 20 2 from by first | rfl | (intro k hk; rfl), show (∀ k : Nat, (k : Int) < (J 20 2).toInt → elt E P 20 k = elt E P 20 k) from by first | rfl | (intro k hk; rfl), show I 6 3 = I 6 3 from by first | rfl | (intro k hk; rfl), show I 6 4 = I 6 4 from by first | rfl | (intro k hk; rfl)⟩) | exact Or.inr (Or.inr (Or.inl ⟨by omega, by omega, show J 20 2 = J 20 2 from by first | rfl | (intro k hk; rfl), show (∀ k : Nat, (k : Int) < (J 20 2).toInt → elt E P 20 k = elt E P 20 k) from by first | rfl | (intro k hk; rfl), show I 6 3 = I 6 3 from by first | rfl | (intro k hk; rfl), show I 6 4 = I 6 4 from by first | rfl | (intro k hk; rfl)⟩)) | exact Or.inr (Or.inr (Or.inr (⟨by omega, by omega, show (J 20 2).toInt = (J 20 2).toInt + 1 from by first | rfl | omega | (intro k hk; exact hE@k k hk) | (intro x hx; rw [hF9]; exact @fr x (List.mem_append_right _ hx)) | (intro a ha; have h9 : a ≠ @q := @fr (6, a) (List.mem_append_right _ ha); exact ⟨(show clr I 6 @q 0 6 3 a = I 6 3 a from clr_o _ _ _ h9 _ _), (show clr I 6 @q 0 6 4 a = I 6 4 a from clr_o _ _ _ h9 _ _)⟩) | (rw [hF9]; exact ⟨(show clr I 6 @q 0 6 3 @q = 0 from clr_s _ _ _ _ _), (show clr I 6 @q 0 6 4 @q = 0 from clr_s _ _ _ _ _)⟩), show (∀ k : Nat, (k : Int) < (J 20 2).toInt → elt E P 20 k = elt E P 20 k) from by first | rfl | omega | (intro k hk; exact hE@k k hk) | (intro x hx; rw [hF9]; exact @fr x (List.mem_append_right _ hx)) | (intro a ha; have h9 : a ≠ @q := @fr (6, a) (List.mem_append_right _ ha); exact ⟨(show clr I 6 @q 0 6 3 a = I 6 3 a from clr_o _ _ _ h9 _ _), (show clr I 6 @q 0 6 4 a = I 6 4 a from clr_o _ _ _ h9 _ _)⟩) | (rw [hF9]; exact ⟨(show clr I 6 @q 0 6 3 @q = 0 from clr_s _ _ _ _ _), (show clr I 6 @q 0 6 4 @q = 0 from clr_s _ _ _ _ _)⟩), show (∀ x ∈ dy, x.2 ≠ elt E P 20 (J 20 2).toNatClampNeg) from by first | rfl | omega | (intro k hk; exact hE@k k hk) | (intro x hx; rw [hF9]; exact @fr x (List.mem_append_right _ hx)) | (intro a ha; have h9 : a ≠ @q := @fr (6, a) (List.mem_append_right _ ha); exact ⟨(show clr I 6 @q 0 6 3 a = I 6 3 a from clr_o _ _ _ h9 _ _), (show clr I 6 @q 0 6 4 a = I 6 4 a from clr_o _ _ _ h9 _ _)⟩) | (rw [hF9]; exact ⟨(show clr I 6 @q 0 6 3 @q = 0 from clr_s _ _ _ _ _), (show clr I 6 @q 0 6 4 @q = 0 from clr_s _ _ _ _ _)⟩), show (∀ a : Nat, (6, a) ∈ dy → I 6 3 a = I 6 3 a ∧ I 6 4 a = I 6 4 a) from by first | rfl | omega | (intro k hk; exact hE@k k hk) | (intro x hx; rw [hF9]; exact @fr x (List.mem_append_right _ hx)) | (intro a ha; have h9 : a ≠ @q := @fr (6, a) (List.mem_append_right _ ha); exact ⟨(show clr I 6 @q 0 6 3 a = I 6 3 a from clr_o _ _ _ h9 _ _), (show clr I 6 @q 0 6 4 a = I 6 4 a from clr_o _ _ _ h9 _ _)⟩) | (rw [hF9]; exact ⟨(show clr I 6 @q 0 6 3 @q = 0 from clr_s _ _ _ _ _), (show clr I 6 @q 0 6 4 @q = 0 from clr_s _ _ _ _ _)⟩), show (I 6 3 (elt E P 20 (J 20 2).toNatClampNeg) = 0 ∧ I 6 4 (elt E P 20 (J 20 2).toNatClampNeg) = 0) from by first | rfl | omega | (intro k hk; exact hE@k k hk) | (intro x hx; rw [hF9]; exact @fr x (List.mem_append_right _ hx)) | (intro a ha; have h9 : a ≠ @q := @fr (6, a) (List.mem_append_right _ ha); exact ⟨(show clr I 6 @q 0 6 3 a = I 6 3 a from clr_o _ _ _ h9 _ _), (show clr I 6 @q 0 6 4 a = I 6 4 a from clr_o _ _ _ h9 _ _)⟩) | (rw [hF9]; exact ⟨(show clr I 6 @q 0 6 3 @q = 0 from clr_s _ _ _ _ _), (show clr I 6 @q 0 6 4 @q = 0 from clr_s _ _ _ _ _)⟩)⟩))), hwr, fun x hx => hx⟩ dX11_node_30

set_option maxHeartbeats 4000000 in
set_option maxRecDepth 100000 in
theorem c_X11_home_e (l : Launch) (g : gG) (J : Nat → Nat → Int32) (L : Nat → Nat → Int64) (I : Nat → Nat → Nat → Int32) (P : Nat → Nat → Nat → Option Nat) (E : Nat → Option Nat) (N : Nat → Nat) (dy : List (Nat × Nat)) (sz : Nat) (a0 : Int32) (a1 : Int32) (a2 : Int32) (a3 : Int32) (hwf : WXF g J P E N dy) : Met l yX11_home (WS yX11_home cX11_home 7 (some .int)) (RM (8) 10 20100) (PC g [.ref (g.2.2.1 12), .int a0, .int a1, .int a2, .int a3] ((J, L, I, P, E, N), sgX g ++ dy) sz) (va_Qi (fun (r : Int32) (u : (Nat → Nat → Int32) × (Nat → Nat → Nat → Int32) × (Nat → Nat → Nat → Option Nat) × (Nat → Option Nat) × (Nat → Nat) × List (Nat × Nat)) => ((r.toInt = (-1) ∧ (¬ (0 ≤ a0.toInt ∧ a0.toInt < (J 20 2).toInt)) ∧ u.1 22 2 = J 22 2 ∧ (∀ k : Nat, (k : Int) < (J 22 2).toInt → elt (hv1 E [22] u.2.2.2.1) (hv P [2, 32] [] u.2.2.1) 22 k = elt E P 22 k) ∧ u.2.1 2 4 = I 2 4) ∨ (r.toInt = (-4) ∧ (0 ≤ a0.toInt ∧ a0.toInt < (J 20 2).toInt ∧ (a1.toInt < 1 ∨ a2.toInt < 0 ∨ a3.toInt < 0)) ∧ u.1 22 2 = J 22 2 ∧ (∀ k : Nat, (k : Int) < (J 22 2).toInt → elt (hv1 E [22] u.2.2.2.1) (hv P [2, 32] [] u.2.2.1) 22 k = elt E P 22 k) ∧ u.2.1 2 4 = I 2 4) ∨ (r.toInt = (-6) ∧ (0 ≤ a0.toInt ∧ a0.toInt < (J 20 2).toInt ∧ 1 ≤ a1.toInt ∧ 0 ≤ a2.toInt ∧ 0 ≤ a3.toInt ∧ (9 < a1.toInt ∨ 16777215 < a2.toInt ∨ 16777215 < a3.toInt ∨ 40 ≤ (J 22 2).toInt)) ∧ u.1 22 2 = J 22 2 ∧ (∀ k : Nat, (k : Int) < (J 22 2).toInt → elt (hv1 E [22] u.2.2.2.1) (hv P [2, 32] [] u.2.2.1) 22 k = elt E P 22 k) ∧ u.2.1 2 4 = I 2 4) ∨ (r.toInt = (J 22 2).toInt ∧ (0 ≤ a0.toInt ∧ a0.toInt < (J 20 2).toInt ∧ 1 ≤ a1.toInt ∧ 0 ≤ a2.toInt ∧ 0 ≤ a3.toInt ∧ a1.toInt ≤ 9 ∧ a2.toInt ≤ 16777215 ∧ a3.toInt ≤ 16777215 ∧ (J 22 2).toInt ≤ 39) ∧ (u.1 22 2).toInt = (J 22 2).toInt + 1 ∧ (∀ k : Nat, (k : Int) < (J 22 2).toInt → elt (hv1 E [22] u.2.2.2.1) (hv P [2, 32] [] u.2.2.1) 22 k = elt E P 22 k) ∧ (∀ x ∈ dy, x.2 ≠ elt (hv1 E [22] u.2.2.2.1) (hv P [2, 32] [] u.2.2.1) 22 (J 22 2).toNatClampNeg) ∧ (∀ a : Nat, (2, a) ∈ dy → u.2.1 2 4 a = I 2 4 a) ∧ (u.2.1 2 4 (elt (hv1 E [22] u.2.2.2.1) (hv P [2, 32] [] u.2.2.1) 22 (J 22 2).toNatClampNeg) = 0))) ∧ WXF g (hv J [42] [(22, 0), (22, 2)] u.1) (hv P [2, 32] [] u.2.2.1) (hv1 E [22] u.2.2.2.1) u.2.2.2.2.1 u.2.2.2.2.2 ∧ (∀ x ∈ dy, x ∈ u.2.2.2.2.2)) (fun u t => at_ g (FR g ((J, L, I, P, E, N), sgX g ++ dy) sz) ((((hv J [42] [(22, 0), (22, 2)] u.1), L, (hv I [2] [] u.2.1), (hv P [2, 32] [] u.2.2.1), (hv1 E [22] u.2.2.2.1), u.2.2.2.2.1), sgX g ++ u.2.2.2.2.2)) t) (FR g ((J, L, I, P, E, N), sgX g ++ dy) sz)) 10 20100 (FR g ((J, L, I, P, E, N), sgX g ++ dy) sz) := by
  refine ent (by decide +kernel) (Nat.le_of_ble_eq_true rfl) ?_
  intro p e s m below meth c ls hsz C hW hr hlocks hname hl
  generalize FR g ((J, L, I, P, E, N), sgX g ++ dy) sz = A at C hW ⊢
  have hx := C.1.1
  have hb := C.1.2.1
  have hts := C.1.2.2.2.2
  have hl : lv_has ls 7 [(0, .ref (g.2.2.1 12)), (1, .int a0), (2, .int a1), (3, .int a2), (4, .int a3)] := hl
  obtain ⟨H, hH⟩ : ∃ H : Heap, H = s.heap := ⟨_, rfl⟩
  obtain ⟨locs, hlocs⟩ : ∃ q : List Loc, q = [] := ⟨_, rfl⟩
  have hW : WB g A s.heap H locs (J, L, I, P, E, N) (sgX g ++ dy) := by rw [hH, hlocs]; exact hW
  refine start_ hH hlocs ?_
  refine lv_aload_n hx hb dX11_home_0 rfl (lv_at hl 0 rfl) ?_
  refine rg_12_0 C hW (mx_ rfl) tw_364 dX11_home_1 ?_
  refine lv_iload_n hx hb dX11_home_4 rfl (lv_at hl 1 rfl) ?_
  refine cq_ C hW (runV (x := (g.2.2.1 4)) (As := [.int a0]) (rest := []) (T := ((J, L, I, P, E, N), sgX g ++ dy)) C hW (c_X3_nodeOf l g J L I P E N dy H.size a0 hwf) mi_X3_nodeOf tw_463 (recv_ (T := ((J, L, I, P, E, N), sgX g ++ dy)) C hW (mx_ rfl) rfl rfl) ⟨rfl, rfl, Nat.le_of_ble_eq_true rfl, Nat.le_of_ble_eq_true rfl⟩ rfl hl.1 rfl (Nat.le_of_ble_eq_true rfl) dX11_home_5 ⟨Nat.le_of_ble_eq_true rfl, Nat.le_of_ble_eq_true rfl⟩) (fun q1 u1 H locs hp1 hW => ?_)
  have hq1 : ((q1 = none ∧ (¬ (0 ≤ a0.toInt ∧ a0.toInt < (J 20 2).toInt))) ∨ (q1 = some (elt E P 20 a0.toNatClampNeg) ∧ (0 ≤ a0.toInt ∧ a0.toInt < (J 20 2).toInt))) := hp1
  clear hp1
  have hW : WB g A s.heap H locs (J, L, I, P, E, N) (sgX g ++ dy) := hW
  rcases hq1 with ⟨rfl, hn1⟩ | ⟨rfl, hs1⟩
  · refine lv_asv (v' := .null) rfl ?_
    refine lv_astoreN (lv' := [(5, .null), (0, .ref (g.2.2.1 12)), (1, .int a0), (2, .int a1), (3, .int a2), (4, .int a3)]) hx hb dX11_home_8 hl (by decide) rfl (fun ls hl => ?_)
    refine lv_aloadN hx hb dX11_home_10 (lv_at hl 0 rfl) ?_
    refine lv_ifnonnullN hx hb dX11_home_12 ?_
    refine lv_aload_n hx hb dX11_home_15 rfl (lv_at hl 1 rfl) ?_
    refine lv_iconst (v := (-1)) hx hb dX11_home_16 (by decide) ?_
    refine ci_ C hW (runV (x := (g.2.2.1 12)) (As := [.int (-1)]) (rest := []) (T := ((J, L, I, P, E, N), sgX g ++ dy)) C hW (c_X11_refuse l g J L I P E N dy H.size (-1) hwf) mi_X11_refuse tw_411 (recv_ (T := ((J, L, I, P, E, N), sgX g ++ dy)) C hW (mx_ rfl) rfl rfl) ⟨rfl, rfl, Nat.le_of_ble_eq_true rfl, Nat.le_of_ble_eq_true rfl⟩ rfl hl.1 rfl (Nat.le_of_ble_eq_true rfl) dX11_home_17 ⟨Nat.le_of_ble_eq_true rfl, Nat.le_of_ble_eq_true rfl⟩) (fun r2 u2 H locs hp2 hW => ?_)
    have hc2 : ((r2 = (-1))) := hp2
    clear hp2
    have hr2 : r2.toInt = (-1) := by rw [hc2]; exact kn1
    have hW : WB g A s.heap H locs ((hv J [42] [] u2), L, I, P, E, N) (sgX g ++ dy) := hW
    have hJe : (hv J [42] [] u2) = hv J [42] [(22, 0), (22, 2)] (hv J [42] [] u2) := ag_hvE (J := J) (R := [42]) (F := [(22, 0), (22, 2)]) (ag_hv rfl rfl ag_rf)
    have hIe : I = hv I [2] [] I := ag_hvE (J := I) (R := [2]) (F := []) ag_rf
    have hPe : P = hv P [2, 32] [] P := ag_hvE (J := P) (R := [2, 32]) (F := []) ag_rf
    have hEe : E = hv1 E [22] E := hv1_e (R := [22]) (fun _ _ => rfl)
    have hWr : WB g A s.heap H locs (hv J [42] [(22, 0), (22, 2)] (hv J [42] [] u2), L, hv I [2] [] I, hv P [2, 32] [] P, hv1 E [22] E, N) (sgX g ++ dy) := by
      rw [← hJe, ← hIe, ← hPe, ← hEe]; exact hW
    have hwr : WXF g (hv J [42] [(22, 0), (22, 2)] (hv J [42] [] u2)) (hv P [2, 32] [] P) (hv1 E [22] E) N dy := by
      rw [← hJe, ← hPe, ← hEe]; exact hwf
    refine W.widen (k := 10) (n := 20100) (Nat.le_of_ble_eq_true rfl) (Nat.le_of_ble_eq_true rfl) ?_
    exact end_i C hr hlocks ((hv J [42] [] u2), I, P, E, N, dy) hWr ⟨by first | exact Or.inl ⟨by omega, by omega, show J 22 2 = J 22 2 from by first | rfl | (intro k hk; rfl), show (∀ k : Nat, (k : Int) < (J 22 2).toInt → elt E P 22 k = elt E P 22 k) from by first | rfl | (intro k hk; rfl), show I 2 4 = I 2 4 from by first | rfl | (intro k hk; rfl)⟩ | exact Or.inr (Or.inl ⟨by omega, by omega, show J 22 2 = J 22 2 from by first | rfl | (intro k hk; rfl), show (∀ k : Nat, (k : Int) < (J 22 2).toInt → elt E P 22 k = elt E P 22 k) from by first | rfl | (intro k hk; rfl), show I 2 4 = I 2 4 from by first | rfl | (intro k hk; rfl)⟩) | exact Or.inr (Or.inr (Or.inl ⟨by omega, by omega, show J 22 2 = J 22 2 from by first | rfl | (intro k hk; rfl), show (∀ k : Nat, (k : Int) < (J 22 2).toInt → elt E P 22 k = elt E P 22 k) from by first | rfl | (intro k hk; rfl), show I 2 4 = I 2 4 from by first | rfl | (intro k hk; rfl)⟩)) | exact Or.inr (Or.inr (Or.inr (⟨by omega, by omega, show (J 22 2).toInt = (J 22 2).toInt + 1 from by first | rfl | omega | (intro k hk; exact hE@k k hk) | (intro x hx; rw [hF9]; exact @fr x (List.mem_append_right _ hx)) | (intro a ha; have h9 : a ≠ @q := @fr (2, a) (List.mem_append_right _ ha); exact (show clr I 2 @q 0 2 4 a = I 2 4 a from clr_o _ _ _ h9 _ _)) | (rw [hF9]; exact (show clr I 2 @q 0 2 4 @q = 0 from clr_s _ _ _ _ _)), show (∀ k : Nat, (k : Int) < (J 22 2).toInt → elt E P 22 k = elt E P 22 k) from by first | rfl | omega | (intro k hk; exact hE@k k hk) | (intro x hx; rw [hF9]; exact @fr x (List.mem_append_right _ hx)) | (intro a ha; have h9 : a ≠ @q := @fr (2, a) (List.mem_append_right _ ha); exact (show clr I 2 @q 0 2 4 a = I 2 4 a from clr_o _ _ _ h9 _ _)) | (rw [hF9]; exact (show clr I 2 @q 0 2 4 @q = 0 from clr_s _ _ _ _ _)), show (∀ x ∈ dy, x.2 ≠ elt E P 22 (J 22 2).toNatClampNeg) from by first | rfl | omega | (intro k hk; exact hE@k k hk) | (intro x hx; rw [hF9]; exact @fr x (List.mem_append_right _ hx)) | (intro a ha; have h9 : a ≠ @q := @fr (2, a) (List.mem_append_right _ ha); exact (show clr I 2 @q 0 2 4 a = I 2 4 a from clr_o _ _ _ h9 _ _)) | (rw [hF9]; exact (show clr I 2 @q 0 2 4 @q = 0 from clr_s _ _ _ _ _)), show (∀ a : Nat, (2, a) ∈ dy → I 2 4 a = I 2 4 a) from by first | rfl | omega | (intro k hk; exact hE@k k hk) | (intro x hx; rw [hF9]; exact @fr x (List.mem_append_right _ hx)) | (intro a ha; have h9 : a ≠ @q := @fr (2, a) (List.mem_append_right _ ha); exact (show clr I 2 @q 0 2 4 a = I 2 4 a from clr_o _ _ _ h9 _ _)) | (rw [hF9]; exact (show clr I 2 @q 0 2 4 @q = 0 from clr_s _ _ _ _ _)), show (I 2 4 (elt E P 22 (J 22 2).toNatClampNeg) = 0) from by first | rfl | omega | (intro k hk; exact hE@k k hk) | (intro x hx; rw [hF9]; exact @fr x (List.mem_append_right _ hx)) | (intro a ha; have h9 : a ≠ @q := @fr (2, a) (List.mem_append_right _ ha); exact (show clr I 2 @q 0 2 4 a = I 2 4 a from clr_o _ _ _ h9 _ _)) | (rw [hF9]; exact (show clr I 2 @q 0 2 4 @q = 0 from clr_s _ _ _ _ _))⟩))), hwr, fun x hx => hx⟩ dX11_home_20
  · skip
    obtain ⟨o1, ho1⟩ : ∃ z : Nat, z = elt E P 20 a0.toNatClampNeg := ⟨_, rfl⟩
    have hm1 : (6, o1) ∈ dy := by rw [ho1]; exact (lw_mem (er := 6) hwf.1.1 (show (a0.toNatClampNeg : Int) < (J 20 2).toInt from by have := tcl a0; omega))
    refine lv_asv (v' := .ref o1) (by rw [ho1]; rfl) ?_
    refine lv_astore (lv' := [(5, .ref o1), (0, .ref (g.2.2.1 12)), (1, .int a0), (2, .int a1), (3, .int a2), (4, .int a3)]) hx hb dX11_home_8 hl (by decide) rfl (fun ls hl => ?_)
    refine lv_aload hx hb dX11_home_10 (lv_at hl 0 rfl) ?_
    refine lv_ifnonnull (tgt := 21) hx hb dX11_home_12 (by decide) ?_
    refine lv_iload_n hx hb dX11_home_21 rfl (lv_at hl 3 rfl) ?_
    refine lv_iconst (v := 1) hx hb dX11_home_22 (by decide) ?_
    refine lv_icmp_lt (tgt := 35) hx hb dX11_home_23 (by decide) (fun c3 => ?_) (fun c3 => ?_)
    · have c3 : a1.toInt < 1 := tlt rfl kp1 c3
      refine lv_aload_n hx hb dX11_home_35 rfl (lv_at hl 1 rfl) ?_
      refine lv_bipush (v := (-4)) hx hb dX11_home_36 (by decide) ?_
      refine ci_ C hW (runV (x := (g.2.2.1 12)) (As := [.int (-4)]) (rest := []) (T := ((J, L, I, P, E, N), sgX g ++ dy)) C hW (c_X11_refuse l g J L I P E N dy H.size (-4) hwf) mi_X11_refuse tw_411 (recv_ (T := ((J, L, I, P, E, N), sgX g ++ dy)) C hW (mx_ rfl) rfl rfl) ⟨rfl, rfl, Nat.le_of_ble_eq_true rfl, Nat.le_of_ble_eq_true rfl⟩ rfl hl.1 rfl (Nat.le_of_ble_eq_true rfl) dX11_home_38 ⟨Nat.le_of_ble_eq_true rfl, Nat.le_of_ble_eq_true rfl⟩) (fun r4 u4 H locs hp4 hW => ?_)
      have hc4 : ((r4 = (-4))) := hp4
      clear hp4
      have hr4 : r4.toInt = (-4) := by rw [hc4]; exact kn4
      have hW : WB g A s.heap H locs ((hv J [42] [] u4), L, I, P, E, N) (sgX g ++ dy) := hW
      have hJe : (hv J [42] [] u4) = hv J [42] [(22, 0), (22, 2)] (hv J [42] [] u4) := ag_hvE (J := J) (R := [42]) (F := [(22, 0), (22, 2)]) (ag_hv rfl rfl ag_rf)
      have hIe : I = hv I [2] [] I := ag_hvE (J := I) (R := [2]) (F := []) ag_rf
      have hPe : P = hv P [2, 32] [] P := ag_hvE (J := P) (R := [2, 32]) (F := []) ag_rf
      have hEe : E = hv1 E [22] E := hv1_e (R := [22]) (fun _ _ => rfl)
      have hWr : WB g A s.heap H locs (hv J [42] [(22, 0), (22, 2)] (hv J [42] [] u4), L, hv I [2] [] I, hv P [2, 32] [] P, hv1 E [22] E, N) (sgX g ++ dy) := by
        rw [← hJe, ← hIe, ← hPe, ← hEe]; exact hW
      have hwr : WXF g (hv J [42] [(22, 0), (22, 2)] (hv J [42] [] u4)) (hv P [2, 32] [] P) (hv1 E [22] E) N dy := by
        rw [← hJe, ← hPe, ← hEe]; exact hwf
      refine W.widen (k := 10) (n := 20100) (Nat.le_of_ble_eq_true rfl) (Nat.le_of_ble_eq_true rfl) ?_
      exact end_i C hr hlocks ((hv J [42] [] u4), I, P, E, N, dy) hWr ⟨by first | exact Or.inl ⟨by omega, by omega, show J 22 2 = J 22 2 from by first | rfl | (intro k hk; rfl), show (∀ k : Nat, (k : Int) < (J 22 2).toInt → elt E P 22 k = elt E P 22 k) from by first | rfl | (intro k hk; rfl), show I 2 4 = I 2 4 from by first | rfl | (intro k hk; rfl)⟩ | exact Or.inr (Or.inl ⟨by omega, by omega, show J 22 2 = J 22 2 from by first | rfl | (intro k hk; rfl), show (∀ k : Nat, (k : Int) < (J 22 2).toInt → elt E P 22 k = elt E P 22 k) from by first | rfl | (intro k hk; rfl), show I 2 4 = I 2 4 from by first | rfl | (intro k hk; rfl)⟩) | exact Or.inr (Or.inr (Or.inl ⟨by omega, by omega, show J 22 2 = J 22 2 from by first | rfl | (intro k hk; rfl), show (∀ k : Nat, (k : Int) < (J 22 2).toInt → elt E P 22 k = elt E P 22 k) from by first | rfl | (intro k hk; rfl), show I 2 4 = I 2 4 from by first | rfl | (intro k hk; rfl)⟩)) | exact Or.inr (Or.inr (Or.inr (⟨by omega, by omega, show (J 22 2).toInt = (J 22 2).toInt + 1 from by first | rfl | omega | (intro k hk; exact hE@k k hk) | (intro x hx; rw [hF9]; exact @fr x (List.mem_append_right _ hx)) | (intro a ha; have h9 : a ≠ @q := @fr (2, a) (List.mem_append_right _ ha); exact (show clr I 2 @q 0 2 4 a = I 2 4 a from clr_o _ _ _ h9 _ _)) | (rw [hF9]; exact (show clr I 2 @q 0 2 4 @q = 0 from clr_s _ _ _ _ _)), show (∀ k : Nat, (k : Int) < (J 22 2).toInt → elt E P 22 k = elt E P 22 k) from by first | rfl | omega | (intro k hk; exact hE@k k hk) | (intro x hx; rw [hF9]; exact @fr x (List.mem_append_right _ hx)) | (intro a ha; have h9 : a ≠ @q := @fr (2, a) (List.mem_append_right _ ha); exact (show clr I 2 @q 0 2 4 a = I 2 4 a from clr_o _ _ _ h9 _ _)) | (rw [hF9]; exact (show clr I 2 @q 0 2 4 @q = 0 from clr_s _ _ _ _ _)), show (∀ x ∈ dy, x.2 ≠ elt E P 22 (J 22 2).toNatClampNeg) from by first | rfl | omega | (intro k hk; exact hE@k k hk) | (intro x hx; rw [hF9]; exact @fr x (List.mem_append_right _ hx)) | (intro a ha; have h9 : a ≠ @q := @fr (2, a) (List.mem_append_right _ ha); exact (show clr I 2 @q 0 2 4 a = I 2 4 a from clr_o _ _ _ h9 _ _)) | (rw [hF9]; exact (show clr I 2 @q 0 2 4 @q = 0 from clr_s _ _ _ _ _)), show (∀ a : Nat, (2, a) ∈ dy → I 2 4 a = I 2 4 a) from by first | rfl | omega | (intro k hk; exact hE@k k hk) | (intro x hx; rw [hF9]; exact @fr x (List.mem_append_right _ hx)) | (intro a ha; have h9 : a ≠ @q := @fr (2, a) (List.mem_append_right _ ha); exact (show clr I 2 @q 0 2 4 a = I 2 4 a from clr_o _ _ _ h9 _ _)) | (rw [hF9]; exact (show clr I 2 @q 0 2 4 @q = 0 from clr_s _ _ _ _ _)), show (I 2 4 (elt E P 22 (J 22 2).toNatClampNeg) = 0) from by first | rfl | omega | (intro k hk; exact hE@k k hk) | (intro x hx; rw [hF9]; exact @fr x (List.mem_append_right _ hx)) | (intro a ha; have h9 : a ≠ @q := @fr (2, a) (List.mem_append_right _ ha); exact (show clr I 2 @q 0 2 4 a = I 2 4 a from clr_o _ _ _ h9 _ _)) | (rw [hF9]; exact (show clr I 2 @q 0 2 4 @q = 0 from clr_s _ _ _ _ _))⟩))), hwr, fun x hx => hx⟩ dX11_home_41
    · have c3 : 1 ≤ a1.toInt := tnlt rfl kp1 c3
      refine lv_iload_n hx hb dX11_home_26 rfl (lv_at hl 4 rfl) ?_
      refine lv_if_lt (tgt := 35) hx hb dX11_home_27 (by decide) (fun c5 => ?_) (fun c5 => ?_)
      · have c5 : a2.toInt < 0 := tlt rfl kp0 c5
        refine lv_aload_n hx hb dX11_home_35 rfl (lv_at hl 1 rfl) ?_
        refine lv_bipush (v := (-4)) hx hb dX11_home_36 (by decide) ?_
        refine ci_ C hW (runV (x := (g.2.2.1 12)) (As := [.int (-4)]) (rest := []) (T := ((J, L, I, P, E, N), sgX g ++ dy)) C hW (c_X11_refuse l g J L I P E N dy H.size (-4) hwf) mi_X11_refuse tw_411 (recv_ (T := ((J, L, I, P, E, N), sgX g ++ dy)) C hW (mx_ rfl) rfl rfl) ⟨rfl, rfl, Nat.le_of_ble_eq_true rfl, Nat.le_of_ble_eq_true rfl⟩ rfl hl.1 rfl (Nat.le_of_ble_eq_true rfl) dX11_home_38 ⟨Nat.le_of_ble_eq_true rfl, Nat.le_of_ble_eq_true rfl⟩) (fun r6 u6 H locs hp6 hW => ?_)
        have hc6 : ((r6 = (-4))) := hp6
        clear hp6
        have hr6 : r6.toInt = (-4) := by rw [hc6]; exact kn4
        have hW : WB g A s.heap H locs ((hv J [42] [] u6), L, I, P, E, N) (sgX g ++ dy) := hW
        have hJe : (hv J [42] [] u6) = hv J [42] [(22, 0), (22, 2)] (hv J [42] [] u6) := ag_hvE (J := J) (R := [42]) (F := [(22, 0), (22, 2)]) (ag_hv rfl rfl ag_rf)
        have hIe : I = hv I [2] [] I := ag_hvE (J := I) (R := [2]) (F := []) ag_rf
        have hPe : P = hv P [2, 32] [] P := ag_hvE (J := P) (R := [2, 32]) (F := []) ag_rf
        have hEe : E = hv1 E [22] E := hv1_e (R := [22]) (fun _ _ => rfl)
        have hWr : WB g A s.heap H locs (hv J [42] [(22, 0), (22, 2)] (hv J [42] [] u6), L, hv I [2] [] I, hv P [2, 32] [] P, hv1 E [22] E, N) (sgX g ++ dy) := by
          rw [← hJe, ← hIe, ← hPe, ← hEe]; exact hW
        have hwr : WXF g (hv J [42] [(22, 0), (22, 2)] (hv J [42] [] u6)) (hv P [2, 32] [] P) (hv1 E [22] E) N dy := by
          rw [← hJe, ← hPe, ← hEe]; exact hwf
        refine W.widen (k := 10) (n := 20100) (Nat.le_of_ble_eq_true rfl) (Nat.le_of_ble_eq_true rfl) ?_
        exact end_i C hr hlocks ((hv J [42] [] u6), I, P, E, N, dy) hWr ⟨by first | exact Or.inl ⟨by omega, by omega, show J 22 2 = J 22 2 from by first | rfl | (intro k hk; rfl), show (∀ k : Nat, (k : Int) < (J 22 2).toInt → elt E P 22 k = elt E P 22 k) from by first | rfl | (intro k hk; rfl), show I 2 4 = I 2 4 from by first | rfl | (intro k hk; rfl)⟩ | exact Or.inr (Or.inl ⟨by omega, by omega, show J 22 2 = J 22 2 from by first | rfl | (intro k hk; rfl), show (∀ k : Nat, (k : Int) < (J 22 2).toInt → elt E P 22 k = elt E P 22 k) from by first | rfl | (intro k hk; rfl), show I 2 4 = I 2 4 from by first | rfl | (intro k hk; rfl)⟩) | exact Or.inr (Or.inr (Or.inl ⟨by omega, by omega, show J 22 2 = J 22 2 from by first | rfl | (intro k hk; rfl), show (∀ k : Nat, (k : Int) < (J 22 2).toInt → elt E P 22 k = elt E P 22 k) from by first | rfl | (intro k hk; rfl), show I 2 4 = I 2 4 from by first | rfl | (intro k hk; rfl)⟩)) | exact Or.inr (Or.inr (Or.inr (⟨by omega, by omega, show (J 22 2).toInt = (J 22 2).toInt + 1 from by first | rfl | omega | (intro k hk; exact hE@k k hk) | (intro x hx; rw [hF9]; exact @fr x (List.mem_append_right _ hx)) | (intro a ha; have h9 : a ≠ @q := @fr (2, a) (List.mem_append_right _ ha); exact (show clr I 2 @q 0 2 4 a = I 2 4 a from clr_o _ _ _ h9 _ _)) | (rw [hF9]; exact (show clr I 2 @q 0 2 4 @q = 0 from clr_s _ _ _ _ _)), show (∀ k : Nat, (k : Int) < (J 22 2).toInt → elt E P 22 k = elt E P 22 k) from by first | rfl | omega | (intro k hk; exact hE@k k hk) | (intro x hx; rw [hF9]; exact @fr x (List.mem_append_right _ hx)) | (intro a ha; have h9 : a ≠ @q := @fr (2, a) (List.mem_append_right _ ha); exact (show clr I 2 @q 0 2 4 a = I 2 4 a from clr_o _ _ _ h9 _ _)) | (rw [hF9]; exact (show clr I 2 @q 0 2 4 @q = 0 from clr_s _ _ _ _ _)), show (∀ x ∈ dy, x.2 ≠ elt E P 22 (J 22 2).toNatClampNeg) from by first | rfl | omega | (intro k hk; exact hE@k k hk) | (intro x hx; rw [hF9]; exact @fr x (List.mem_append_right _ hx)) | (intro a ha; have h9 : a ≠ @q := @fr (2, a) (List.mem_append_right _ ha); exact (show clr I 2 @q 0 2 4 a = I 2 4 a from clr_o _ _ _ h9 _ _)) | (rw [hF9]; exact (show clr I 2 @q 0 2 4 @q = 0 from clr_s _ _ _ _ _)), show (∀ a : Nat, (2, a) ∈ dy → I 2 4 a = I 2 4 a) from by first | rfl | omega | (intro k hk; exact hE@k k hk) | (intro x hx; rw [hF9]; exact @fr x (List.mem_append_right _ hx)) | (intro a ha; have h9 : a ≠ @q := @fr (2, a) (List.mem_append_right _ ha); exact (show clr I 2 @q 0 2 4 a = I 2 4 a from clr_o _ _ _ h9 _ _)) | (rw [hF9]; exact (show clr I 2 @q 0 2 4 @q = 0 from clr_s _ _ _ _ _)), show (I 2 4 (elt E P 22 (J 22 2).toNatClampNeg) = 0) from by first | rfl | omega | (intro k hk; exact hE@k k hk) | (intro x hx; rw [hF9]; exact @fr x (List.mem_append_right _ hx)) | (intro a ha; have h9 : a ≠ @q := @fr (2, a) (List.mem_append_right _ ha); exact (show clr I 2 @q 0 2 4 a = I 2 4 a from clr_o _ _ _ h9 _ _)) | (rw [hF9]; exact (show clr I 2 @q 0 2 4 @q = 0 from clr_s _ _ _ _ _))⟩))), hwr, fun x hx => hx⟩ dX11_home_41
      · have c5 : 0 ≤ a2.toInt := tnlt rfl kp0 c5
        refine lv_iload hx hb dX11_home_30 (lv_at hl 5 rfl) ?_
        refine lv_if_ge (tgt := 42) hx hb dX11_home_32 (by decide) (fun c7 => ?_) (fun c7 => ?_)
        · have c7 : 0 ≤ a3.toInt := tle kp0 rfl c7
          refine lv_aload_n hx hb dX11_home_42 rfl (lv_at hl 1 rfl) ?_
          refine rg_12_0 C hW (mx_ rfl) tw_364 dX11_home_43 ?_
          refine rg_4_2 C hW (mx_ rfl) tw_237 dX11_home_46 ?_
          refine ci_ C hW (runV (x := (g.2.2.1 22)) (As := []) (rest := []) (T := ((J, L, I, P, E, N), sgX g ++ dy)) C hW (c_Jx4a65c_size_8abf5 l g J L I P E N dy H.size 22 rfl ) mi_Jx4a65c_size_8abf5 tw_485 (recv_ (T := ((J, L, I, P, E, N), sgX g ++ dy)) C hW (mx_ rfl) (cel_list rfl) rfl) ⟨rfl, rfl, Nat.le_of_ble_eq_true rfl, Nat.le_of_ble_eq_true rfl⟩ rfl hl.1 rfl (Nat.le_of_ble_eq_true rfl) dX11_home_49 ⟨Nat.le_of_ble_eq_true rfl, Nat.le_of_ble_eq_true rfl⟩) (fun r8 u8 H locs hp8 hW => ?_)
          have hc8 : ((r8 = J 22 2)) := hp8
          clear hp8
          have hr8 : r8 = J 22 2 := hc8
          refine lv_as (J 22 2) hr8 ?_
          have hW : WB g A s.heap H locs (J, L, I, P, E, N) (sgX g ++ dy) := hW
          refine lv_istore (lv' := [(6, .int (J 22 2)), (5, .ref o1), (0, .ref (g.2.2.1 12)), (1, .int a0), (2, .int a1), (3, .int a2), (4, .int a3)]) hx hb dX11_home_52 hl (by decide) rfl (fun ls hl => ?_)
          refine lv_iload_n hx hb dX11_home_54 rfl (lv_at hl 4 rfl) ?_
          refine lv_bipush (v := 9) hx hb dX11_home_55 (by decide) ?_
          refine lv_icmp_gt (tgt := 80) hx hb dX11_home_57 (by decide) (fun c9 => ?_) (fun c9 => ?_)
          · have c9 : 9 < a1.toInt := tlt kp9 rfl c9
            refine lv_aload_n hx hb dX11_home_80 rfl (lv_at hl 2 rfl) ?_
            refine lv_bipush (v := (-6)) hx hb dX11_home_81 (by decide) ?_
            refine ci_ C hW (runV (x := (g.2.2.1 12)) (As := [.int (-6)]) (rest := []) (T := ((J, L, I, P, E, N), sgX g ++ dy)) C hW (c_X11_refuse l g J L I P E N dy H.size (-6) hwf) mi_X11_refuse tw_411 (recv_ (T := ((J, L, I, P, E, N), sgX g ++ dy)) C hW (mx_ rfl) rfl rfl) ⟨rfl, rfl, Nat.le_of_ble_eq_true rfl, Nat.le_of_ble_eq_true rfl⟩ rfl hl.1 rfl (Nat.le_of_ble_eq_true rfl) dX11_home_83 ⟨Nat.le_of_ble_eq_true rfl, Nat.le_of_ble_eq_true rfl⟩) (fun r10 u10 H locs hp10 hW => ?_)
            have hc10 : ((r10 = (-6))) := hp10
            clear hp10
            have hr10 : r10.toInt = (-6) := by rw [hc10]; exact kn6
            have hW : WB g A s.heap H locs ((hv J [42] [] u10), L, I, P, E, N) (sgX g ++ dy) := hW
            have hJe : (hv J [42] [] u10) = hv J [42] [(22, 0), (22, 2)] (hv J [42] [] u10) := ag_hvE (J := J) (R := [42]) (F := [(22, 0), (22, 2)]) (ag_hv rfl rfl ag_rf)
            have hIe : I = hv I [2] [] I := ag_hvE (J := I) (R := [2]) (F := []) ag_rf
            have hPe : P = hv P [2, 32] [] P := ag_hvE (J := P) (R := [2, 32]) (F := []) ag_rf
            have hEe : E = hv1 E [22] E := hv1_e (R := [22]) (fun _ _ => rfl)
            have hWr : WB g A s.heap H locs (hv J [42] [(22, 0), (22, 2)] (hv J [42] [] u10), L, hv I [2] [] I, hv P [2, 32] [] P, hv1 E [22] E, N) (sgX g ++ dy) := by
              rw [← hJe, ← hIe, ← hPe, ← hEe]; exact hW
            have hwr : WXF g (hv J [42] [(22, 0), (22, 2)] (hv J [42] [] u10)) (hv P [2, 32] [] P) (hv1 E [22] E) N dy := by
              rw [← hJe, ← hPe, ← hEe]; exact hwf
            refine W.widen (k := 10) (n := 20100) (Nat.le_of_ble_eq_true rfl) (Nat.le_of_ble_eq_true rfl) ?_
            exact end_i C hr hlocks ((hv J [42] [] u10), I, P, E, N, dy) hWr ⟨by first | exact Or.inl ⟨by omega, by omega, show J 22 2 = J 22 2 from by first | rfl | (intro k hk; rfl), show (∀ k : Nat, (k : Int) < (J 22 2).toInt → elt E P 22 k = elt E P 22 k) from by first | rfl | (intro k hk; rfl), show I 2 4 = I 2 4 from by first | rfl | (intro k hk; rfl)⟩ | exact Or.inr (Or.inl ⟨by omega, by omega, show J 22 2 = J 22 2 from by first | rfl | (intro k hk; rfl), show (∀ k : Nat, (k : Int) < (J 22 2).toInt → elt E P 22 k = elt E P 22 k) from by first | rfl | (intro k hk; rfl), show I 2 4 = I 2 4 from by first | rfl | (intro k hk; rfl)⟩) | exact Or.inr (Or.inr (Or.inl ⟨by omega, by omega, show J 22 2 = J 22 2 from by first | rfl | (intro k hk; rfl), show (∀ k : Nat, (k : Int) < (J 22 2).toInt → elt E P 22 k = elt E P 22 k) from by first | rfl | (intro k hk; rfl), show I 2 4 = I 2 4 from by first | rfl | (intro k hk; rfl)⟩)) | exact Or.inr (Or.inr (Or.inr (⟨by omega, by omega, show (J 22 2).toInt = (J 22 2).toInt + 1 from by first | rfl | omega | (intro k hk; exact hE@k k hk) | (intro x hx; rw [hF9]; exact @fr x (List.mem_append_right _ hx)) | (intro a ha; have h9 : a ≠ @q := @fr (2, a) (List.mem_append_right _ ha); exact (show clr I 2 @q 0 2 4 a = I 2 4 a from clr_o _ _ _ h9 _ _)) | (rw [hF9]; exact (show clr I 2 @q 0 2 4 @q = 0 from clr_s _ _ _ _ _)), show (∀ k : Nat, (k : Int) < (J 22 2).toInt → elt E P 22 k = elt E P 22 k) from by first | rfl | omega | (intro k hk; exact hE@k k hk) | (intro x hx; rw [hF9]; exact @fr x (List.mem_append_right _ hx)) | (intro a ha; have h9 : a ≠ @q := @fr (2, a) (List.mem_append_right _ ha); exact (show clr I 2 @q 0 2 4 a = I 2 4 a from clr_o _ _ _ h9 _ _)) | (rw [hF9]; exact (show clr I 2 @q 0 2 4 @q = 0 from clr_s _ _ _ _ _)), show (∀ x ∈ dy, x.2 ≠ elt E P 22 (J 22 2).toNatClampNeg) from by first | rfl | omega | (intro k hk; exact hE@k k hk) | (intro x hx; rw [hF9]; exact @fr x (List.mem_append_right _ hx)) | (intro a ha; have h9 : a ≠ @q := @fr (2, a) (List.mem_append_right _ ha); exact (show clr I 2 @q 0 2 4 a = I 2 4 a from clr_o _ _ _ h9 _ _)) | (rw [hF9]; exact (show clr I 2 @q 0 2 4 @q = 0 from clr_s _ _ _ _ _)), show (∀ a : Nat, (2, a) ∈ dy → I 2 4 a = I 2 4 a) from by first | rfl | omega | (intro k hk; exact hE@k k hk) | (intro x hx; rw [hF9]; exact @fr x (List.mem_append_right _ hx)) | (intro a ha; have h9 : a ≠ @q := @fr (2, a) (List.mem_append_right _ ha); exact (show clr I 2 @q 0 2 4 a = I 2 4 a from clr_o _ _ _ h9 _ _)) | (rw [hF9]; exact (show clr I 2 @q 0 2 4 @q = 0 from clr_s _ _ _ _ _)), show (I 2 4 (elt E P 22 (J 22 2).toNatClampNeg) = 0) from by first | rfl | omega | (intro k hk; exact hE@k k hk) | (intro x hx; rw [hF9]; exact @fr x (List.mem_append_right _ hx)) | (intro a ha; have h9 : a ≠ @q := @fr (2, a) (List.mem_append_right _ ha); exact (show clr I 2 @q 0 2 4 a = I 2 4 a from clr_o _ _ _ h9 _ _)) | (rw [hF9]; exact (show clr I 2 @q 0 2 4 @q = 0 from clr_s _ _ _ _ _))⟩))), hwr, fun x hx => hx⟩ dX11_home_86
          · have c9 : a1.toInt ≤ 9 := tnlt kp9 rfl c9
            refine lv_iload_n hx hb dX11_home_60 rfl (lv_at hl 5 rfl) ?_
            refine lv_ldc hx hb C.1.2.2.2.1 (hts _ tw_541) dX11_home_61 ?_
            refine lv_icmp_gt (tgt := 80) hx hb dX11_home_63 (by decide) (fun c11 => ?_) (fun c11 => ?_)
            · have c11 : 16777215 < a2.toInt := tlt kp16777215 rfl c11
              refine lv_aload_n hx hb dX11_home_80 rfl (lv_at hl 2 rfl) ?_
              refine lv_bipush (v := (-6)) hx hb dX11_home_81 (by decide) ?_
              refine ci_ C hW (runV (x := (g.2.2.1 12)) (As := [.int (-6)]) (rest := []) (T := ((J, L, I, P, E, N), sgX g ++ dy)) C hW (c_X11_refuse l g J L I P E N dy H.size (-6) hwf) mi_X11_refuse tw_411 (recv_ (T := ((J, L, I, P, E, N), sgX g ++ dy)) C hW (mx_ rfl) rfl rfl) ⟨rfl, rfl, Nat.le_of_ble_eq_true rfl, Nat.le_of_ble_eq_true rfl⟩ rfl hl.1 rfl (Nat.le_of_ble_eq_true rfl) dX11_home_83 ⟨Nat.le_of_ble_eq_true rfl, Nat.le_of_ble_eq_true rfl⟩) (fun r12 u12 H locs hp12 hW => ?_)
              have hc12 : ((r12 = (-6))) := hp12
              clear hp12
              have hr12 : r12.toInt = (-6) := by rw [hc12]; exact kn6
              have hW : WB g A s.heap H locs ((hv J [42] [] u12), L, I, P, E, N) (sgX g ++ dy) := hW
              have hJe : (hv J [42] [] u12) = hv J [42] [(22, 0), (22, 2)] (hv J [42] [] u12) := ag_hvE (J := J) (R := [42]) (F := [(22, 0), (22, 2)]) (ag_hv rfl rfl ag_rf)
              have hIe : I = hv I [2] [] I := ag_hvE (J := I) (R := [2]) (F := []) ag_rf
              have hPe : P = hv P [2, 32] [] P := ag_hvE (J := P) (R := [2, 32]) (F := []) ag_rf
              have hEe : E = hv1 E [22] E := hv1_e (R := [22]) (fun _ _ => rfl)
              have hWr : WB g A s.heap H locs (hv J [42] [(22, 0), (22, 2)] (hv J [42] [] u12), L, hv I [2] [] I, hv P [2, 32] [] P, hv1 E [22] E, N) (sgX g ++ dy) := by
                rw [← hJe, ← hIe, ← hPe, ← hEe]; exact hW
              have hwr : WXF g (hv J [42] [(22, 0), (22, 2)] (hv J [42] [] u12)) (hv P [2, 32] [] P) (hv1 E [22] E) N dy := by
                rw [← hJe, ← hPe, ← hEe]; exact hwf
              refine W.widen (k := 10) (n := 20100) (Nat.le_of_ble_eq_true rfl) (Nat.le_of_ble_eq_true rfl) ?_
              exact end_i C hr hlocks ((hv J [42] [] u12), I, P, E, N, dy) hWr ⟨by first | exact Or.inl ⟨by omega, by omega, show J 22 2 = J 22 2 from by first | rfl | (intro k hk; rfl), show (∀ k : Nat, (k : Int) < (J 22 2).toInt → elt E P 22 k = elt E P 22 k) from by first | rfl | (intro k hk; rfl), show I 2 4 = I 2 4 from by first | rfl | (intro k hk; rfl)⟩ | exact Or.inr (Or.inl ⟨by omega, by omega, show J 22 2 = J 22 2 from by first | rfl | (intro k hk; rfl), show (∀ k : Nat, (k : Int) < (J 22 2).toInt → elt E P 22 k = elt E P 22 k) from by first | rfl | (intro k hk; rfl), show I 2 4 = I 2 4 from by first | rfl | (intro k hk; rfl)⟩) | exact Or.inr (Or.inr (Or.inl ⟨by omega, by omega, show J 22 2 = J 22 2 from by first | rfl | (intro k hk; rfl), show (∀ k : Nat, (k : Int) < (J 22 2).toInt → elt E P 22 k = elt E P 22 k) from by first | rfl | (intro k hk; rfl), show I 2 4 = I 2 4 from by first | rfl | (intro k hk; rfl)⟩)) | exact Or.inr (Or.inr (Or.inr (⟨by omega, by omega, show (J 22 2).toInt = (J 22 2).toInt + 1 from by first | rfl | omega | (intro k hk; exact hE@k k hk) | (intro x hx; rw [hF9]; exact @fr x (List.mem_append_right _ hx)) | (intro a ha; have h9 : a ≠ @q := @fr (2, a) (List.mem_append_right _ ha); exact (show clr I 2 @q 0 2 4 a = I 2 4 a from clr_o _ _ _ h9 _ _)) | (rw [hF9]; exact (show clr I 2 @q 0 2 4 @q = 0 from clr_s _ _ _ _ _)), show (∀ k : Nat, (k : Int) < (J 22 2).toInt → elt E P 22 k = elt E P 22 k) from by first | rfl | omega | (intro k hk; exact hE@k k hk) | (intro x hx; rw [hF9]; exact @fr x (List.mem_append_right _ hx)) | (intro a ha; have h9 : a ≠ @q := @fr (2, a) (List.mem_append_right _ ha); exact (show clr I 2 @q 0 2 4 a = I 2 4 a from clr_o _ _ _ h9 _ _)) | (rw [hF9]; exact (show clr I 2 @q 0 2 4 @q = 0 from clr_s _ _ _ _ _)), show (∀ x ∈ dy, x.2 ≠ elt E P 22 (J 22 2).toNatClampNeg) from by first | rfl | omega | (intro k hk; exact hE@k k hk) | (intro x hx; rw [hF9]; exact @fr x (List.mem_append_right _ hx)) | (intro a ha; have h9 : a ≠ @q := @fr (2, a) (List.mem_append_right _ ha); exact (show clr I 2 @q 0 2 4 a = I 2 4 a from clr_o _ _ _ h9 _ _)) | (rw [hF9]; exact (show clr I 2 @q 0 2 4 @q = 0 from clr_s _ _ _ _ _)), show (∀ a : Nat, (2, a) ∈ dy → I 2 4 a = I 2 4 a) from by first | rfl | omega | (intro k hk; exact hE@k k hk) | (intro x hx; rw [hF9]; exact @fr x (List.mem_append_right _ hx)) | (intro a ha; have h9 : a ≠ @q := @fr (2, a) (List.mem_append_right _ ha); exact (show clr I 2 @q 0 2 4 a = I 2 4 a from clr_o _ _ _ h9 _ _)) | (rw [hF9]; exact (show clr I 2 @q 0 2 4 @q = 0 from clr_s _ _ _ _ _)), show (I 2 4 (elt E P 22 (J 22 2).toNatClampNeg) = 0) from by first | rfl | omega | (intro k hk; exact hE@k k hk) | (intro x hx; rw [hF9]; exact @fr x (List.mem_append_right _ hx)) | (intro a ha; have h9 : a ≠ @q := @fr (2, a) (List.mem_append_right _ ha); exact (show clr I 2 @q 0 2 4 a = I 2 4 a from clr_o _ _ _ h9 _ _)) | (rw [hF9]; exact (show clr I 2 @q 0 2 4 @q = 0 from clr_s _ _ _ _ _))⟩))), hwr, fun x hx => hx⟩ dX11_home_86
            · have c11 : a2.toInt ≤ 16777215 := tnlt kp16777215 rfl c11
              refine lv_iload hx hb dX11_home_66 (lv_at hl 6 rfl) ?_
              refine lv_ldc hx hb C.1.2.2.2.1 (hts _ tw_541) dX11_home_68 ?_
              refine lv_icmp_gt (tgt := 80) hx hb dX11_home_70 (by decide) (fun c13 => ?_) (fun c13 => ?_)
              · have c13 : 16777215 < a3.toInt := tlt kp16777215 rfl c13
                refine lv_aload_n hx hb dX11_home_80 rfl (lv_at hl 2 rfl) ?_
                refine lv_bipush (v := (-6)) hx hb dX11_home_81 (by decide) ?_
                refine ci_ C hW (runV (x := (g.2.2.1 12)) (As := [.int (-6)]) (rest := []) (T := ((J, L, I, P, E, N), sgX g ++ dy)) C hW (c_X11_refuse l g J L I P E N dy H.size (-6) hwf) mi_X11_refuse tw_411 (recv_ (T := ((J, L, I, P, E, N), sgX g ++ dy)) C hW (mx_ rfl) rfl rfl) ⟨rfl, rfl, Nat.le_of_ble_eq_true rfl, Nat.le_of_ble_eq_true rfl⟩ rfl hl.1 rfl (Nat.le_of_ble_eq_true rfl) dX11_home_83 ⟨Nat.le_of_ble_eq_true rfl, Nat.le_of_ble_eq_true rfl⟩) (fun r14 u14 H locs hp14 hW => ?_)
                have hc14 : ((r14 = (-6))) := hp14
                clear hp14
                have hr14 : r14.toInt = (-6) := by rw [hc14]; exact kn6
                have hW : WB g A s.heap H locs ((hv J [42] [] u14), L, I, P, E, N) (sgX g ++ dy) := hW
                have hJe : (hv J [42] [] u14) = hv J [42] [(22, 0), (22, 2)] (hv J [42] [] u14) := ag_hvE (J := J) (R := [42]) (F := [(22, 0), (22, 2)]) (ag_hv rfl rfl ag_rf)
                have hIe : I = hv I [2] [] I := ag_hvE (J := I) (R := [2]) (F := []) ag_rf
                have hPe : P = hv P [2, 32] [] P := ag_hvE (J := P) (R := [2, 32]) (F := []) ag_rf
                have hEe : E = hv1 E [22] E := hv1_e (R := [22]) (fun _ _ => rfl)
                have hWr : WB g A s.heap H locs (hv J [42] [(22, 0), (22, 2)] (hv J [42] [] u14), L, hv I [2] [] I, hv P [2, 32] [] P, hv1 E [22] E, N) (sgX g ++ dy) := by
                  rw [← hJe, ← hIe, ← hPe, ← hEe]; exact hW
                have hwr : WXF g (hv J [42] [(22, 0), (22, 2)] (hv J [42] [] u14)) (hv P [2, 32] [] P) (hv1 E [22] E) N dy := by
                  rw [← hJe, ← hPe, ← hEe]; exact hwf
                refine W.widen (k := 10) (n := 20100) (Nat.le_of_ble_eq_true rfl) (Nat.le_of_ble_eq_true rfl) ?_
                exact end_i C hr hlocks ((hv J [42] [] u14), I, P, E, N, dy) hWr ⟨by first | exact Or.inl ⟨by omega, by omega, show J 22 2 = J 22 2 from by first | rfl | (intro k hk; rfl), show (∀ k : Nat, (k : Int) < (J 22 2).toInt → elt E P 22 k = elt E P 22 k) from by first | rfl | (intro k hk; rfl), show I 2 4 = I 2 4 from by first | rfl | (intro k hk; rfl)⟩ | exact Or.inr (Or.inl ⟨by omega, by omega, show J 22 2 = J 22 2 from by first | rfl | (intro k hk; rfl), show (∀ k : Nat, (k : Int) < (J 22 2).toInt → elt E P 22 k = elt E P 22 k) from by first | rfl | (intro k hk; rfl), show I 2 4 = I 2 4 from by first | rfl | (intro k hk; rfl)⟩) | exact Or.inr (Or.inr (Or.inl ⟨by omega, by omega, show J 22 2 = J 22 2 from by first | rfl | (intro k hk; rfl), show (∀ k : Nat, (k : Int) < (J 22 2).toInt → elt E P 22 k = elt E P 22 k) from by first | rfl | (intro k hk; rfl), show I 2 4 = I 2 4 from by first | rfl | (intro k hk; rfl)⟩)) | exact Or.inr (Or.inr (Or.inr (⟨by omega, by omega, show (J 22 2).toInt = (J 22 2).toInt + 1 from by first | rfl | omega | (intro k hk; exact hE@k k hk) | (intro x hx; rw [hF9]; exact @fr x (List.mem_append_right _ hx)) | (intro a ha; have h9 : a ≠ @q := @fr (2, a) (List.mem_append_right _ ha); exact (show clr I 2 @q 0 2 4 a = I 2 4 a from clr_o _ _ _ h9 _ _)) | (rw [hF9]; exact (show clr I 2 @q 0 2 4 @q = 0 from clr_s _ _ _ _ _)), show (∀ k : Nat, (k : Int) < (J 22 2).toInt → elt E P 22 k = elt E P 22 k) from by first | rfl | omega | (intro k hk; exact hE@k k hk) | (intro x hx; rw [hF9]; exact @fr x (List.mem_append_right _ hx)) | (intro a ha; have h9 : a ≠ @q := @fr (2, a) (List.mem_append_right _ ha); exact (show clr I 2 @q 0 2 4 a = I 2 4 a from clr_o _ _ _ h9 _ _)) | (rw [hF9]; exact (show clr I 2 @q 0 2 4 @q = 0 from clr_s _ _ _ _ _)), show (∀ x ∈ dy, x.2 ≠ elt E P 22 (J 22 2).toNatClampNeg) from by first | rfl | omega | (intro k hk; exact hE@k k hk) | (intro x hx; rw [hF9]; exact @fr x (List.mem_append_right _ hx)) | (intro a ha; have h9 : a ≠ @q := @fr (2, a) (List.mem_append_right _ ha); exact (show clr I 2 @q 0 2 4 a = I 2 4 a from clr_o _ _ _ h9 _ _)) | (rw [hF9]; exact (show clr I 2 @q 0 2 4 @q = 0 from clr_s _ _ _ _ _)), show (∀ a : Nat, (2, a) ∈ dy → I 2 4 a = I 2 4 a) from by first | rfl | omega | (intro k hk; exact hE@k k hk) | (intro x hx; rw [hF9]; exact @fr x (List.mem_append_right _ hx)) | (intro a ha; have h9 : a ≠ @q := @fr (2, a) (List.mem_append_right _ ha); exact (show clr I 2 @q 0 2 4 a = I 2 4 a from clr_o _ _ _ h9 _ _)) | (rw [hF9]; exact (show clr I 2 @q 0 2 4 @q = 0 from clr_s _ _ _ _ _)), show (I 2 4 (elt E P 22 (J 22 2).toNatClampNeg) = 0) from by first | rfl | omega | (intro k hk; exact hE@k k hk) | (intro x hx; rw [hF9]; exact @fr x (List.mem_append_right _ hx)) | (intro a ha; have h9 : a ≠ @q := @fr (2, a) (List.mem_append_right _ ha); exact (show clr I 2 @q 0 2 4 a = I 2 4 a from clr_o _ _ _ h9 _ _)) | (rw [hF9]; exact (show clr I 2 @q 0 2 4 @q = 0 from clr_s _ _ _ _ _))⟩))), hwr, fun x hx => hx⟩ dX11_home_86
              · have c13 : a3.toInt ≤ 16777215 := tnlt kp16777215 rfl c13
                refine lv_iload hx hb dX11_home_73 (lv_at hl 0 rfl) ?_
                refine lv_bipush (v := 40) hx hb dX11_home_75 (by decide) ?_
                refine lv_icmp_lt (tgt := 87) hx hb dX11_home_77 (by decide) (fun c15 => ?_) (fun c15 => ?_)
                · have c15 : (J 22 2).toInt < 40 := tlt rfl kp40 c15
                  refine lv_aload_n hx hb dX11_home_87 rfl (lv_at hl 2 rfl) ?_
                  refine rg_12_0 C hW (mx_ rfl) tw_364 dX11_home_88 ?_
                  refine rg_4_2 C hW (mx_ rfl) tw_237 dX11_home_91 ?_
                  refine g_new (r := 2) (S' := fun q => (J, L, clr I 2 q 0, clr P 2 q none, E, N)) (ci := 2) (fs := [.null, .int 0, .int 0, .int 0, .int 0]) C hW rfl rfl in_X1 tyX1 tyX1_ok tw_542 tw_543 tw_85 (fun j hj => by rcases (show j = 0 ∨ j = 1 ∨ j = 2 ∨ j = 3 ∨ j = 4 by omega) with rfl | rfl | rfl | rfl | rfl <;> rfl) (fun q => by simp only [cel, celc, clr_s] <;> rfl) (fun q r' a h => cel_clr 2 q r' a h) ⟨Nat.le_of_ble_eq_true rfl, Nat.le_of_ble_eq_true rfl⟩ dX11_home_94 (fun q16 H hfr16 hW => ?_)
                  rw [List.append_assoc] at hW
                  have hW : WB g A s.heap H locs (J, L, (clr I 2 q16 0), (clr P 2 q16 none), E, N) (sgX g ++ (dy ++ [(2, q16)])) := hW
                  refine lv_dup hx hb dX11_home_97 rfl ?_
                  refine lv_aload hx hb dX11_home_98 (lv_at hl 1 rfl) ?_
                  refine lv_iload_n hx hb dX11_home_100 rfl (lv_at hl 4 rfl) ?_
                  refine lv_iload_n hx hb dX11_home_101 rfl (lv_at hl 5 rfl) ?_
                  refine lv_iload hx hb dX11_home_102 (lv_at hl 6 rfl) ?_
                  refine cv_ C hW (runI (x := q16) (As := [.ref o1, .int a1, .int a2, .int a3]) (rest := [.ref q16, .ref (g.2.2.1 22)]) (T := ((J, L, (clr I 2 q16 0), (clr P 2 q16 none), E, N), sgX g ++ (dy ++ [(2, q16)]))) C hW (c_X1_init l g J L (clr I 2 q16 0) (clr P 2 q16 none) E N (dy ++ [(2, q16)]) H.size q16 (List.mem_append_right _ (List.mem_singleton.mpr rfl)) o1 (List.mem_append_left _ hm1) a1 a2 a3 ) mi_X1_init tw_544 ⟨rfl, rfl, Nat.le_of_ble_eq_true rfl, Nat.le_of_ble_eq_true rfl⟩ rfl hl.1 rfl (Nat.le_of_ble_eq_true rfl) dX11_home_104 ⟨Nat.le_of_ble_eq_true rfl, Nat.le_of_ble_eq_true rfl⟩) (fun u17 H locs hp17 hW => ?_)
                  have hW : WB g A s.heap H locs (J, L, (up3 (up3 (up3 (clr I 2 q16 0) 2 1 q16 a1) 2 2 q16 a2) 2 3 q16 a3), (up3 (clr P 2 q16 none) 2 0 q16 (some o1)), E, N) (sgX g ++ (dy ++ [(2, q16)])) := hW
                  have hwf : WXF g J (up3 (clr P 2 q16 none) 2 0 q16 (some o1)) E N (dy ++ [(2, q16)]) := wxf_new (J := J) hwf (fun x hx => hfr16 x (List.mem_append_right _ hx)) (fun r f a h => (up3_a _ _ _ _ h _ _).trans (clr_o _ _ _ h _ _)) (fun _ _ => rfl) ⟨fun h => absurd h (by decide), fun h => absurd h (by decide), fun _ => ⟨_, up3_s _ _ _ _ _, hm1⟩, fun h => absurd h (by decide)⟩
                  refine ci_ C hW (runV (x := (g.2.2.1 22)) (As := [.ref q16]) (rest := []) (T := ((J, L, (up3 (up3 (up3 (clr I 2 q16 0) 2 1 q16 a1) 2 2 q16 a2) 2 3 q16 a3), (up3 (clr P 2 q16 none) 2 0 q16 (some o1)), E, N), sgX g ++ (dy ++ [(2, q16)]))) C hW (c_Jx4a65c_add_9ea2d l g J L (up3 (up3 (up3 (clr I 2 q16 0) 2 1 q16 a1) 2 2 q16 a2) 2 3 q16 a3) (up3 (clr P 2 q16 none) 2 0 q16 (some o1)) E N (dy ++ [(2, q16)]) H.size 2 22 rfl rfl q16 (List.mem_append_right _ (List.mem_singleton.mpr rfl)) hwf.1.2.2.1 (show (J 22 2).toInt ≤ 9999 from by omega)) mi_Jx4a65c_add_9ea2d tw_488 (recv_ (T := ((J, L, (up3 (up3 (up3 (clr I 2 q16 0) 2 1 q16 a1) 2 2 q16 a2) 2 3 q16 a3), (up3 (clr P 2 q16 none) 2 0 q16 (some o1)), E, N), sgX g ++ (dy ++ [(2, q16)]))) C hW (mx_ rfl) (cel_list rfl) rfl) ⟨rfl, rfl, Nat.le_of_ble_eq_true rfl, Nat.le_of_ble_eq_true rfl⟩ rfl hl.1 rfl (Nat.le_of_ble_eq_true rfl) dX11_home_107 ⟨Nat.le_of_ble_eq_true rfl, Nat.le_of_ble_eq_true rfl⟩) (fun r18 u18 H locs hp18 hW => ?_)
                  obtain ⟨hc18, hG18, hL18, hE18, hF18⟩ := hp18
                  have hlo18 : 0 ≤ (J 22 2).toInt := (hwf.1.2.2.1).1
                  have ht18 : (J 22 2 + 1).toInt = (J 22 2).toInt + 1 := tadd rfl rfl kp1 (by omega)
                  have hW : WB g A s.heap H locs ((up2 (up2 J 22 0 u18.1) 22 2 (J 22 2 + 1)), L, (up3 (up3 (up3 (clr I 2 q16 0) 2 1 q16 a1) 2 2 q16 a2) 2 3 q16 a3), (hv (up3 (clr P 2 q16 none) 2 0 q16 (some o1)) [32] [] u18.2.1), (up1 E 22 u18.2.2.1), u18.2.2.2.1) (sgX g ++ u18.2.2.2.2) := hW
                  have hwf : WXF g (up2 (up2 J 22 0 u18.1) 22 2 (J 22 2 + 1)) (hv (up3 (clr P 2 q16 none) 2 0 q16 (some o1)) [32] [] u18.2.1) (up1 E 22 u18.2.2.1) u18.2.2.2.1 u18.2.2.2.2 := wxf_add22 hwf hG18 hL18
                  refine lv_pop hx hb dX11_home_110 rfl ?_
                  refine lv_iload hx hb dX11_home_111 (lv_at hl 0 rfl) ?_
                  have hF9 : elt (up1 E 22 u18.2.2.1) (hv (up3 (clr P 2 q16 none) 2 0 q16 (some o1)) [32] [] u18.2.1) 22 (J 22 2).toNatClampNeg = q16 := hF18
                  have hJe : (up2 (up2 J 22 0 u18.1) 22 2 (J 22 2 + 1)) = hv J [42] [(22, 0), (22, 2)] (up2 (up2 J 22 0 u18.1) 22 2 (J 22 2 + 1)) := ag_hvE (J := J) (R := [42]) (F := [(22, 0), (22, 2)]) (ag_up (Or.inr rfl) (ag_up (Or.inr rfl) ag_rf))
                  have hIe : (up3 (up3 (up3 (clr I 2 q16 0) 2 1 q16 a1) 2 2 q16 a2) 2 3 q16 a3) = hv I [2] [] (up3 (up3 (up3 (clr I 2 q16 0) 2 1 q16 a1) 2 2 q16 a2) 2 3 q16 a3) := ag_hvE (J := I) (R := [2]) (F := []) (ag_up3 (Or.inl rfl) (ag_up3 (Or.inl rfl) (ag_up3 (Or.inl rfl) (ag_clr rfl ag_rf))))
                  have hPe : (hv (up3 (clr P 2 q16 none) 2 0 q16 (some o1)) [32] [] u18.2.1) = hv P [2, 32] [] (hv (up3 (clr P 2 q16 none) 2 0 q16 (some o1)) [32] [] u18.2.1) := ag_hvE (J := P) (R := [2, 32]) (F := []) (ag_hv rfl rfl (ag_up3 (Or.inl rfl) (ag_clr rfl ag_rf)))
                  have hEe : (up1 E 22 u18.2.2.1) = hv1 E [22] (up1 E 22 u18.2.2.1) := hv1_e (R := [22]) (up1_ag rfl (fun _ _ => rfl))
                  have hWr : WB g A s.heap H locs (hv J [42] [(22, 0), (22, 2)] (up2 (up2 J 22 0 u18.1) 22 2 (J 22 2 + 1)), L, hv I [2] [] (up3 (up3 (up3 (clr I 2 q16 0) 2 1 q16 a1) 2 2 q16 a2) 2 3 q16 a3), hv P [2, 32] [] (hv (up3 (clr P 2 q16 none) 2 0 q16 (some o1)) [32] [] u18.2.1), hv1 E [22] (up1 E 22 u18.2.2.1), u18.2.2.2.1) (sgX g ++ u18.2.2.2.2) := by
                    rw [← hJe, ← hIe, ← hPe, ← hEe]; exact hW
                  have hwr : WXF g (hv J [42] [(22, 0), (22, 2)] (up2 (up2 J 22 0 u18.1) 22 2 (J 22 2 + 1))) (hv P [2, 32] [] (hv (up3 (clr P 2 q16 none) 2 0 q16 (some o1)) [32] [] u18.2.1)) (hv1 E [22] (up1 E 22 u18.2.2.1)) u18.2.2.2.1 u18.2.2.2.2 := by
                    rw [← hJe, ← hPe, ← hEe]; exact hwf
                  refine W.widen (k := 10) (n := 20100) (Nat.le_of_ble_eq_true rfl) (Nat.le_of_ble_eq_true rfl) ?_
                  exact end_i C hr hlocks ((up2 (up2 J 22 0 u18.1) 22 2 (J 22 2 + 1)), (up3 (up3 (up3 (clr I 2 q16 0) 2 1 q16 a1) 2 2 q16 a2) 2 3 q16 a3), (hv (up3 (clr P 2 q16 none) 2 0 q16 (some o1)) [32] [] u18.2.1), (up1 E 22 u18.2.2.1), u18.2.2.2.1, u18.2.2.2.2) hWr ⟨by first | exact Or.inl ⟨by omega, by omega, show J 22 2 + 1 = J 22 2 from by first | rfl | (intro k hk; rfl), show (∀ k : Nat, (k : Int) < (J 22 2).toInt → elt (up1 E 22 u18.2.2.1) (hv (up3 (clr P 2 q16 none) 2 0 q16 (some o1)) [32] [] u18.2.1) 22 k = elt E P 22 k) from by first | rfl | (intro k hk; rfl), show (up3 (up3 (up3 (clr I 2 q16 0) 2 1 q16 a1) 2 2 q16 a2) 2 3 q16 a3) 2 4 = I 2 4 from by first | rfl | (intro k hk; rfl)⟩ | exact Or.inr (Or.inl ⟨by omega, by omega, show J 22 2 + 1 = J 22 2 from by first | rfl | (intro k hk; rfl), show (∀ k : Nat, (k : Int) < (J 22 2).toInt → elt (up1 E 22 u18.2.2.1) (hv (up3 (clr P 2 q16 none) 2 0 q16 (some o1)) [32] [] u18.2.1) 22 k = elt E P 22 k) from by first | rfl | (intro k hk; rfl), show (up3 (up3 (up3 (clr I 2 q16 0) 2 1 q16 a1) 2 2 q16 a2) 2 3 q16 a3) 2 4 = I 2 4 from by first | rfl | (intro k hk; rfl)⟩) | exact Or.inr (Or.inr (Or.inl ⟨by omega, by omega, show J 22 2 + 1 = J 22 2 from by first | rfl | (intro k hk; rfl), show (∀ k : Nat, (k : Int) < (J 22 2).toInt → elt (up1 E 22 u18.2.2.1) (hv (up3 (clr P 2 q16 none) 2 0 q16 (some o1)) [32] [] u18.2.1) 22 k = elt E P 22 k) from by first | rfl | (intro k hk; rfl), show (up3 (up3 (up3 (clr I 2 q16 0) 2 1 q16 a1) 2 2 q16 a2) 2 3 q16 a3) 2 4 = I 2 4 from by first | rfl | (intro k hk; rfl)⟩)) | exact Or.inr (Or.inr (Or.inr (⟨by omega, by omega, show (J 22 2 + 1).toInt = (J 22 2).toInt + 1 from by first | rfl | omega | (intro k hk; exact hE18 k hk) | (intro x hx; rw [hF9]; exact hfr16 x (List.mem_append_right _ hx)) | (intro a ha; have h9 : a ≠ q16 := hfr16 (2, a) (List.mem_append_right _ ha); exact (show clr I 2 q16 0 2 4 a = I 2 4 a from clr_o _ _ _ h9 _ _)) | (rw [hF9]; exact (show clr I 2 q16 0 2 4 q16 = 0 from clr_s _ _ _ _ _)), show (∀ k : Nat, (k : Int) < (J 22 2).toInt → elt (up1 E 22 u18.2.2.1) (hv (up3 (clr P 2 q16 none) 2 0 q16 (some o1)) [32] [] u18.2.1) 22 k = elt E P 22 k) from by first | rfl | omega | (intro k hk; exact hE18 k hk) | (intro x hx; rw [hF9]; exact hfr16 x (List.mem_append_right _ hx)) | (intro a ha; have h9 : a ≠ q16 := hfr16 (2, a) (List.mem_append_right _ ha); exact (show clr I 2 q16 0 2 4 a = I 2 4 a from clr_o _ _ _ h9 _ _)) | (rw [hF9]; exact (show clr I 2 q16 0 2 4 q16 = 0 from clr_s _ _ _ _ _)), show (∀ x ∈ dy, x.2 ≠ elt (up1 E 22 u18.2.2.1) (hv (up3 (clr P 2 q16 none) 2 0 q16 (some o1)) [32] [] u18.2.1) 22 (J 22 2).toNatClampNeg) from by first | rfl | omega | (intro k hk; exact hE18 k hk) | (intro x hx; rw [hF9]; exact hfr16 x (List.mem_append_right _ hx)) | (intro a ha; have h9 : a ≠ q16 := hfr16 (2, a) (List.mem_append_right _ ha); exact (show clr I 2 q16 0 2 4 a = I 2 4 a from clr_o _ _ _ h9 _ _)) | (rw [hF9]; exact (show clr I 2 q16 0 2 4 q16 = 0 from clr_s _ _ _ _ _)), show (∀ a : Nat, (2, a) ∈ dy → (up3 (up3 (up3 (clr I 2 q16 0) 2 1 q16 a1) 2 2 q16 a2) 2 3 q16 a3) 2 4 a = I 2 4 a) from by first | rfl | omega | (intro k hk; exact hE18 k hk) | (intro x hx; rw [hF9]; exact hfr16 x (List.mem_append_right _ hx)) | (intro a ha; have h9 : a ≠ q16 := hfr16 (2, a) (List.mem_append_right _ ha); exact (show clr I 2 q16 0 2 4 a = I 2 4 a from clr_o _ _ _ h9 _ _)) | (rw [hF9]; exact (show clr I 2 q16 0 2 4 q16 = 0 from clr_s _ _ _ _ _)), show ((up3 (up3 (up3 (clr I 2 q16 0) 2 1 q16 a1) 2 2 q16 a2) 2 3 q16 a3) 2 4 (elt (up1 E 22 u18.2.2.1) (hv (up3 (clr P 2 q16 none) 2 0 q16 (some o1)) [32] [] u18.2.1) 22 (J 22 2).toNatClampNeg) = 0) from by first | rfl | omega | (intro k hk; exact hE18 k hk) | (intro x hx; rw [hF9]; exact hfr16 x (List.mem_append_right _ hx)) | (intro a ha; have h9 : a ≠ q16 := hfr16 (2, a) (List.mem_append_right _ ha); exact (show clr I 2 q16 0 2 4 a = I 2 4 a from clr_o _ _ _ h9 _ _)) | (rw [hF9]; exact (show clr I 2 q16 0 2 4 q16 = 0 from clr_s _ _ _ _ _))⟩))), hwr, fun x hx => hG18.1 x ((fun x hx => List.mem_append_left _ ((fun x hx => hx) x hx)) x hx)⟩ dX11_home_113
                · have c15 : 40 ≤ (J 22 2).toInt := tnlt rfl kp40 c15
                  refine lv_aload_n hx hb dX11_home_80 rfl (lv_at hl 2 rfl) ?_
                  refine lv_bipush (v := (-6)) hx hb dX11_home_81 (by decide) ?_
                  refine ci_ C hW (runV (x := (g.2.2.1 12)) (As := [.int (-6)]) (rest := []) (T := ((J, L, I, P, E, N), sgX g ++ dy)) C hW (c_X11_refuse l g J L I P E N dy H.size (-6) hwf) mi_X11_refuse tw_411 (recv_ (T := ((J, L, I, P, E, N), sgX g ++ dy)) C hW (mx_ rfl) rfl rfl) ⟨rfl, rfl, Nat.le_of_ble_eq_true rfl, Nat.le_of_ble_eq_true rfl⟩ rfl hl.1 rfl (Nat.le_of_ble_eq_true rfl) dX11_home_83 ⟨Nat.le_of_ble_eq_true rfl, Nat.le_of_ble_eq_true rfl⟩) (fun r19 u19 H locs hp19 hW => ?_)
                  have hc19 : ((r19 = (-6))) := hp19
                  clear hp19
                  have hr19 : r19.toInt = (-6) := by rw [hc19]; exact kn6
                  have hW : WB g A s.heap H locs ((hv J [42] [] u19), L, I, P, E, N) (sgX g ++ dy) := hW
                  have hJe : (hv J [42] [] u19) = hv J [42] [(22, 0), (22, 2)] (hv J [42] [] u19) := ag_hvE (J := J) (R := [42]) (F := [(22, 0), (22, 2)]) (ag_hv rfl rfl ag_rf)
                  have hIe : I = hv I [2] [] I := ag_hvE (J := I) (R := [2]) (F := []) ag_rf
                  have hPe : P = hv P [2, 32] [] P := ag_hvE (J := P) (R := [2, 32]) (F := []) ag_rf
                  have hEe : E = hv1 E [22] E := hv1_e (R := [22]) (fun _ _ => rfl)
                  have hWr : WB g A s.heap H locs (hv J [42] [(22, 0), (22, 2)] (hv J [42] [] u19), L, hv I [2] [] I, hv P [2, 32] [] P, hv1 E [22] E, N) (sgX g ++ dy) := by
                    rw [← hJe, ← hIe, ← hPe, ← hEe]; exact hW
                  have hwr : WXF g (hv J [42] [(22, 0), (22, 2)] (hv J [42] [] u19)) (hv P [2, 32] [] P) (hv1 E [22] E) N dy := by
                    rw [← hJe, ← hPe, ← hEe]; exact hwf
                  refine W.widen (k := 10) (n := 20100) (Nat.le_of_ble_eq_true rfl) (Nat.le_of_ble_eq_true rfl) ?_
                  exact end_i C hr hlocks ((hv J [42] [] u19), I, P, E, N, dy) hWr ⟨by first | exact Or.inl ⟨by omega, by omega, show J 22 2 = J 22 2 from by first | rfl | (intro k hk; rfl), show (∀ k : Nat, (k : Int) < (J 22 2).toInt → elt E P 22 k = elt E P 22 k) from by first | rfl | (intro k hk; rfl), show I 2 4 = I 2 4 from by first | rfl | (intro k hk; rfl)⟩ | exact Or.inr (Or.inl ⟨by omega, by omega, show J 22 2 = J 22 2 from by first | rfl | (intro k hk; rfl), show (∀ k : Nat, (k : Int) < (J 22 2).toInt → elt E P 22 k = elt E P 22 k) from by first | rfl | (intro k hk; rfl), show I 2 4 = I 2 4 from by first | rfl | (intro k hk; rfl)⟩) | exact Or.inr (Or.inr (Or.inl ⟨by omega, by omega, show J 22 2 = J 22 2 from by first | rfl | (intro k hk; rfl), show (∀ k : Nat, (k : Int) < (J 22 2).toInt → elt E P 22 k = elt E P 22 k) from by first | rfl | (intro k hk; rfl), show I 2 4 = I 2 4 from by first | rfl | (intro k hk; rfl)⟩)) | exact Or.inr (Or.inr (Or.inr (⟨by omega, by omega, show (J 22 2).toInt = (J 22 2).toInt + 1 from by first | rfl | omega | (intro k hk; exact hE@k k hk) | (intro x hx; rw [hF9]; exact @fr x (List.mem_append_right _ hx)) | (intro a ha; have h9 : a ≠ @q := @fr (2, a) (List.mem_append_right _ ha); exact (show clr I 2 @q 0 2 4 a = I 2 4 a from clr_o _ _ _ h9 _ _)) | (rw [hF9]; exact (show clr I 2 @q 0 2 4 @q = 0 from clr_s _ _ _ _ _)), show (∀ k : Nat, (k : Int) < (J 22 2).toInt → elt E P 22 k = elt E P 22 k) from by first | rfl | omega | (intro k hk; exact hE@k k hk) | (intro x hx; rw [hF9]; exact @fr x (List.mem_append_right _ hx)) | (intro a ha; have h9 : a ≠ @q := @fr (2, a) (List.mem_append_right _ ha); exact (show clr I 2 @q 0 2 4 a = I 2 4 a from clr_o _ _ _ h9 _ _)) | (rw [hF9]; exact (show clr I 2 @q 0 2 4 @q = 0 from clr_s _ _ _ _ _)), show (∀ x ∈ dy, x.2 ≠ elt E P 22 (J 22 2).toNatClampNeg) from by first | rfl | omega | (intro k hk; exact hE@k k hk) | (intro x hx; rw [hF9]; exact @fr x (List.mem_append_right _ hx)) | (intro a ha; have h9 : a ≠ @q := @fr (2, a) (List.mem_append_right _ ha); exact (show clr I 2 @q 0 2 4 a = I 2 4 a from clr_o _ _ _ h9 _ _)) | (rw [hF9]; exact (show clr I 2 @q 0 2 4 @q = 0 from clr_s _ _ _ _ _)), show (∀ a : Nat, (2, a) ∈ dy → I 2 4 a = I 2 4 a) from by first | rfl | omega | (intro k hk; exact hE@k k hk) | (intro x hx; rw [hF9]; exact @fr x (List.mem_append_right _ hx)) | (intro a ha; have h9 : a ≠ @q := @fr (2, a) (List.mem_append_right _ ha); exact (show clr I 2 @q 0 2 4 a = I 2 4 a from clr_o _ _ _ h9 _ _)) | (rw [hF9]; exact (show clr I 2 @q 0 2 4 @q = 0 from clr_s _ _ _ _ _)), show (I 2 4 (elt E P 22 (J 22 2).toNatClampNeg) = 0) from by first | rfl | omega | (intro k hk; exact hE@k k hk) | (intro x hx; rw [hF9]; exact @fr x (List.mem_append_right _ hx)) | (intro a ha; have h9 : a ≠ @q := @fr (2, a) (List.mem_append_right _ ha); exact (show clr I 2 @q 0 2 4 a = I 2 4 a from clr_o _ _ _ h9 _ _)) | (rw [hF9]; exact (show clr I 2 @q 0 2 4 @q = 0 from clr_s _ _ _ _ _))⟩))), hwr, fun x hx => hx⟩ dX11_home_86
        · have c7 : a3.toInt < 0 := tnle kp0 rfl c7
          refine lv_aload_n hx hb dX11_home_35 rfl (lv_at hl 1 rfl) ?_
          refine lv_bipush (v := (-4)) hx hb dX11_home_36 (by decide) ?_
          refine ci_ C hW (runV (x := (g.2.2.1 12)) (As := [.int (-4)]) (rest := []) (T := ((J, L, I, P, E, N), sgX g ++ dy)) C hW (c_X11_refuse l g J L I P E N dy H.size (-4) hwf) mi_X11_refuse tw_411 (recv_ (T := ((J, L, I, P, E, N), sgX g ++ dy)) C hW (mx_ rfl) rfl rfl) ⟨rfl, rfl, Nat.le_of_ble_eq_true rfl, Nat.le_of_ble_eq_true rfl⟩ rfl hl.1 rfl (Nat.le_of_ble_eq_true rfl) dX11_home_38 ⟨Nat.le_of_ble_eq_true rfl, Nat.le_of_ble_eq_true rfl⟩) (fun r20 u20 H locs hp20 hW => ?_)
          have hc20 : ((r20 = (-4))) := hp20
          clear hp20
          have hr20 : r20.toInt = (-4) := by rw [hc20]; exact kn4
          have hW : WB g A s.heap H locs ((hv J [42] [] u20), L, I, P, E, N) (sgX g ++ dy) := hW
          have hJe : (hv J [42] [] u20) = hv J [42] [(22, 0), (22, 2)] (hv J [42] [] u20) := ag_hvE (J := J) (R := [42]) (F := [(22, 0), (22, 2)]) (ag_hv rfl rfl ag_rf)
          have hIe : I = hv I [2] [] I := ag_hvE (J := I) (R := [2]) (F := []) ag_rf
          have hPe : P = hv P [2, 32] [] P := ag_hvE (J := P) (R := [2, 32]) (F := []) ag_rf
          have hEe : E = hv1 E [22] E := hv1_e (R := [22]) (fun _ _ => rfl)
          have hWr : WB g A s.heap H locs (hv J [42] [(22, 0), (22, 2)] (hv J [42] [] u20), L, hv I [2] [] I, hv P [2, 32] [] P, hv1 E [22] E, N) (sgX g ++ dy) := by
            rw [← hJe, ← hIe, ← hPe, ← hEe]; exact hW
          have hwr : WXF g (hv J [42] [(22, 0), (22, 2)] (hv J [42] [] u20)) (hv P [2, 32] [] P) (hv1 E [22] E) N dy := by
            rw [← hJe, ← hPe, ← hEe]; exact hwf
          refine W.widen (k := 10) (n := 20100) (Nat.le_of_ble_eq_true rfl) (Nat.le_of_ble_eq_true rfl) ?_
          exact end_i C hr hlocks ((hv J [42] [] u20), I, P, E, N, dy) hWr ⟨by first | exact Or.inl ⟨by omega, by omega, show J 22 2 = J 22 2 from by first | rfl | (intro k hk; rfl), show (∀ k : Nat, (k : Int) < (J 22 2).toInt → elt E P 22 k = elt E P 22 k) from by first | rfl | (intro k hk; rfl), show I 2 4 = I 2 4 from by first | rfl | (intro k hk; rfl)⟩ | exact Or.inr (Or.inl ⟨by omega, by omega, show J 22 2 = J 22 2 from by first | rfl | (intro k hk; rfl), show (∀ k : Nat, (k : Int) < (J 22 2).toInt → elt E P 22 k = elt E P 22 k) from by first | rfl | (intro k hk; rfl), show I 2 4 = I 2 4 from by first | rfl | (intro k hk; rfl)⟩) | exact Or.inr (Or.inr (Or.inl ⟨by omega, by omega, show J 22 2 = J 22 2 from by first | rfl | (intro k hk; rfl), show (∀ k : Nat, (k : Int) < (J 22 2).toInt → elt E P 22 k = elt E P 22 k) from by first | rfl | (intro k hk; rfl), show I 2 4 = I 2 4 from by first | rfl | (intro k hk; rfl)⟩)) | exact Or.inr (Or.inr (Or.inr (⟨by omega, by omega, show (J 22 2).toInt = (J 22 2).toInt + 1 from by first | rfl | omega | (intro k hk; exact hE@k k hk) | (intro x hx; rw [hF9]; exact @fr x (List.mem_append_right _ hx)) | (intro a ha; have h9 : a ≠ @q := @fr (2, a) (List.mem_append_right _ ha); exact (show clr I 2 @q 0 2 4 a = I 2 4 a from clr_o _ _ _ h9 _ _)) | (rw [hF9]; exact (show clr I 2 @q 0 2 4 @q = 0 from clr_s _ _ _ _ _)), show (∀ k : Nat, (k : Int) < (J 22 2).toInt → elt E P 22 k = elt E P 22 k) from by first | rfl | omega | (intro k hk; exact hE@k k hk) | (intro x hx; rw [hF9]; exact @fr x (List.mem_append_right _ hx)) | (intro a ha; have h9 : a ≠ @q := @fr (2, a) (List.mem_append_right _ ha); exact (show clr I 2 @q 0 2 4 a = I 2 4 a from clr_o _ _ _ h9 _ _)) | (rw [hF9]; exact (show clr I 2 @q 0 2 4 @q = 0 from clr_s _ _ _ _ _)), show (∀ x ∈ dy, x.2 ≠ elt E P 22 (J 22 2).toNatClampNeg) from by first | rfl | omega | (intro k hk; exact hE@k k hk) | (intro x hx; rw [hF9]; exact @fr x (List.mem_append_right _ hx)) | (intro a ha; have h9 : a ≠ @q := @fr (2, a) (List.mem_append_right _ ha); exact (show clr I 2 @q 0 2 4 a = I 2 4 a from clr_o _ _ _ h9 _ _)) | (rw [hF9]; exact (show clr I 2 @q 0 2 4 @q = 0 from clr_s _ _ _ _ _)), show (∀ a : Nat, (2, a) ∈ dy → I 2 4 a = I 2 4 a) from by first | rfl | omega | (intro k hk; exact hE@k k hk) | (intro x hx; rw [hF9]; exact @fr x (List.mem_append_right _ hx)) | (intro a ha; have h9 : a ≠ @q := @fr (2, a) (List.mem_append_right _ ha); exact (show clr I 2 @q 0 2 4 a = I 2 4 a from clr_o _ _ _ h9 _ _)) | (rw [hF9]; exact (show clr I 2 @q 0 2 4 @q = 0 from clr_s _ _ _ _ _)), show (I 2 4 (elt E P 22 (J 22 2).toNatClampNeg) = 0) from by first | rfl | omega | (intro k hk; exact hE@k k hk) | (intro x hx; rw [hF9]; exact @fr x (List.mem_append_right _ hx)) | (intro a ha; have h9 : a ≠ @q := @fr (2, a) (List.mem_append_right _ ha); exact (show clr I 2 @q 0 2 4 a = I 2 4 a from clr_o _ _ _ h9 _ _)) | (rw [hF9]; exact (show clr I 2 @q 0 2 4 @q = 0 from clr_s _ _ _ _ _))⟩))), hwr, fun x hx => hx⟩ dX11_home_41

set_option maxHeartbeats 4000000 in
set_option maxRecDepth 100000 in
theorem c_X11_boost_e (l : Launch) (g : gG) (J : Nat → Nat → Int32) (L : Nat → Nat → Int64) (I : Nat → Nat → Nat → Int32) (P : Nat → Nat → Nat → Option Nat) (E : Nat → Option Nat) (N : Nat → Nat) (dy : List (Nat × Nat)) (sz : Nat) (a0 : Int32) (a1 : Int32) (hwf : WXF g J P E N dy) : Met l yX11_boost (WS yX11_boost cX11_boost 5 (some .int)) (RM (5) 0 0) (PC g [.ref (g.2.2.1 12), .int a0, .int a1] ((J, L, I, P, E, N), sgX g ++ dy) sz) (va_Qi (fun (r : Int32) (u : (Nat → Nat → Int32) × (Nat → Nat → Nat → Int32)) => ((r.toInt = (-1) ∧ (¬ (0 ≤ a0.toInt ∧ a0.toInt < (J 20 2).toInt)) ∧ u.2 6 3 = I 6 3) ∨ (r.toInt = (-4) ∧ (0 ≤ a0.toInt ∧ a0.toInt < (J 20 2).toInt ∧ a1.toInt < 0) ∧ u.2 6 3 = I 6 3) ∨ (r.toInt = (-6) ∧ (0 ≤ a0.toInt ∧ a0.toInt < (J 20 2).toInt ∧ 99 < a1.toInt) ∧ u.2 6 3 = I 6 3) ∨ (r = I 6 3 (elt E P 20 a0.toNatClampNeg) ∧ (0 ≤ a0.toInt ∧ a0.toInt < (J 20 2).toInt ∧ 0 ≤ a1.toInt ∧ a1.toInt ≤ 99) ∧ (∀ b : Nat, b ≠ elt E P 20 a0.toNatClampNeg → u.2 6 3 b = I 6 3 b) ∧ u.2 6 3 (elt E P 20 a0.toNatClampNeg) = a1))) (fun u t => at_ g (FR g ((J, L, I, P, E, N), sgX g ++ dy) sz) (((hv J [42] [] u.1), L, (hv I [] [(6, 3)] u.2), P, E, N), sgX g ++ dy) t) (FR g ((J, L, I, P, E, N), sgX g ++ dy) sz)) 0 0 (FR g ((J, L, I, P, E, N), sgX g ++ dy) sz) := by
  refine ent (by decide +kernel) (Nat.le_of_ble_eq_true rfl) ?_
  intro p e s m below meth c ls hsz C hW hr hlocks hname hl
  generalize FR g ((J, L, I, P, E, N), sgX g ++ dy) sz = A at C hW ⊢
  have hx := C.1.1
  have hb := C.1.2.1
  have hts := C.1.2.2.2.2
  have hl : lv_has ls 5 [(0, .ref (g.2.2.1 12)), (1, .int a0), (2, .int a1)] := hl
  obtain ⟨H, hH⟩ : ∃ H : Heap, H = s.heap := ⟨_, rfl⟩
  obtain ⟨locs, hlocs⟩ : ∃ q : List Loc, q = [] := ⟨_, rfl⟩
  have hW : WB g A s.heap H locs (J, L, I, P, E, N) (sgX g ++ dy) := by rw [hH, hlocs]; exact hW
  refine start_ hH hlocs ?_
  refine lv_aload_n hx hb dX11_boost_0 rfl (lv_at hl 0 rfl) ?_
  refine rg_12_0 C hW (mx_ rfl) tw_364 dX11_boost_1 ?_
  refine lv_iload_n hx hb dX11_boost_4 rfl (lv_at hl 1 rfl) ?_
  refine cq_ C hW (runV (x := (g.2.2.1 4)) (As := [.int a0]) (rest := []) (T := ((J, L, I, P, E, N), sgX g ++ dy)) C hW (c_X3_nodeOf l g J L I P E N dy H.size a0 hwf) mi_X3_nodeOf tw_463 (recv_ (T := ((J, L, I, P, E, N), sgX g ++ dy)) C hW (mx_ rfl) rfl rfl) ⟨rfl, rfl, Nat.le_of_ble_eq_true rfl, Nat.le_of_ble_eq_true rfl⟩ rfl hl.1 rfl (Nat.le_of_ble_eq_true rfl) dX11_boost_5 ⟨Nat.le_of_ble_eq_true rfl, Nat.le_of_ble_eq_true rfl⟩) (fun q1 u1 H locs hp1 hW => ?_)
  have hq1 : ((q1 = none ∧ (¬ (0 ≤ a0.toInt ∧ a0.toInt < (J 20 2).toInt))) ∨ (q1 = some (elt E P 20 a0.toNatClampNeg) ∧ (0 ≤ a0.toInt ∧ a0.toInt < (J 20 2).toInt))) := hp1
  clear hp1
  have hW : WB g A s.heap H locs (J, L, I, P, E, N) (sgX g ++ dy) := hW
  rcases hq1 with ⟨rfl, hn1⟩ | ⟨rfl, hs1⟩
  · refine lv_asv (v' := .null) rfl ?_
    refine lv_astore_nN (lv' := [(3, .null), (0, .ref (g.2.2.1 12)), (1, .int a0), (2, .int a1)]) hx hb dX11_boost_8 rfl hl (by decide) rfl (fun ls hl => ?_)
    refine lv_aload_nN hx hb dX11_boost_9 rfl (lv_at hl 0 rfl) ?_
    refine lv_ifnonnullN hx hb dX11_boost_10 ?_
    refine lv_aload_n hx hb dX11_boost_13 rfl (lv_at hl 1 rfl) ?_
    refine lv_iconst (v := (-1)) hx hb dX11_boost_14 (by decide) ?_
    refine ci_ C hW (runV (x := (g.2.2.1 12)) (As := [.int (-1)]) (rest := []) (T := ((J, L, I, P, E, N), sgX g ++ dy)) C hW (c_X11_refuse l g J L I P E N dy H.size (-1) hwf) mi_X11_refuse tw_411 (recv_ (T := ((J, L, I, P, E, N), sgX g ++ dy)) C hW (mx_ rfl) rfl rfl) ⟨rfl, rfl, Nat.le_of_ble_eq_true rfl, Nat.le_of_ble_eq_true rfl⟩ rfl hl.1 rfl (Nat.le_of_ble_eq_true rfl) dX11_boost_15 ⟨Nat.le_of_ble_eq_true rfl, Nat.le_of_ble_eq_true rfl⟩) (fun r2 u2 H locs hp2 hW => ?_)
    have hc2 : ((r2 = (-1))) := hp2
    clear hp2
    have hr2 : r2.toInt = (-1) := by rw [hc2]; exact kn1
    have hW : WB g A s.heap H locs ((hv J [42] [] u2), L, I, P, E, N) (sgX g ++ dy) := hW
    have hWr : WB g A s.heap H locs ((hv J [42] [] (hv J [42] [] u2)), L, (hv I [] [(6, 3)] I), P, E, N) (sgX g ++ dy) := by
      rw [← ag_hvE (J := J) (R := [42]) (F := []) (ag_hv rfl rfl ag_rf)]
      rw [← ag_hvE (J := I) (R := []) (F := [(6, 3)]) ag_rf]
      exact hW
    exact end_i C hr hlocks ((hv J [42] [] u2), I) hWr (by first | exact Or.inl ⟨by omega, by omega, show I 6 3 = I 6 3 from by first | rfl | assumption⟩ | exact Or.inr (Or.inl ⟨by omega, by omega, show I 6 3 = I 6 3 from by first | rfl | assumption⟩) | exact Or.inr (Or.inr (Or.inl ⟨by omega, by omega, show I 6 3 = I 6 3 from by first | rfl | assumption⟩)) | exact Or.inr (Or.inr (Or.inr (⟨by first | rfl | (rw [← ho1]; assumption) | assumption, by omega, show (∀ b : Nat, b ≠ elt E P 20 a0.toNatClampNeg → I 6 3 b = I 6 3 b) from by first | rfl | (rw [← ho1]; intro b hb; exact up3_a _ _ _ _ hb _ _) | (rw [← ho1]; exact up3_s _ _ _ _ _), show I 6 3 (elt E P 20 a0.toNatClampNeg) = a1 from by first | rfl | (rw [← ho1]; intro b hb; exact up3_a _ _ _ _ hb _ _) | (rw [← ho1]; exact up3_s _ _ _ _ _)⟩)))) dX11_boost_18
  · skip
    obtain ⟨o1, ho1⟩ : ∃ z : Nat, z = elt E P 20 a0.toNatClampNeg := ⟨_, rfl⟩
    have hm1 : (6, o1) ∈ dy := by rw [ho1]; exact (lw_mem (er := 6) hwf.1.1 (show (a0.toNatClampNeg : Int) < (J 20 2).toInt from by have := tcl a0; omega))
    refine lv_asv (v' := .ref o1) (by rw [ho1]; rfl) ?_
    refine lv_astore_n (lv' := [(3, .ref o1), (0, .ref (g.2.2.1 12)), (1, .int a0), (2, .int a1)]) hx hb dX11_boost_8 rfl hl (by decide) rfl (fun ls hl => ?_)
    refine lv_aload_n hx hb dX11_boost_9 rfl (lv_at hl 0 rfl) ?_
    refine lv_ifnonnull (tgt := 19) hx hb dX11_boost_10 (by decide) ?_
    refine lv_iload_n hx hb dX11_boost_19 rfl (lv_at hl 3 rfl) ?_
    refine lv_if_ge (tgt := 30) hx hb dX11_boost_20 (by decide) (fun c3 => ?_) (fun c3 => ?_)
    · have c3 : 0 ≤ a1.toInt := tle kp0 rfl c3
      refine lv_iload_n hx hb dX11_boost_30 rfl (lv_at hl 3 rfl) ?_
      refine lv_bipush (v := 99) hx hb dX11_boost_31 (by decide) ?_
      refine lv_icmp_le (tgt := 43) hx hb dX11_boost_33 (by decide) (fun c4 => ?_) (fun c4 => ?_)
      · have c4 : a1.toInt ≤ 99 := tle rfl kp99 c4
        refine lv_aload_n hx hb dX11_boost_43 rfl (lv_at hl 0 rfl) ?_
        refine rg_6_3 C hW (List.mem_append_right _ hm1) tw_143 dX11_boost_44 ?_
        refine lv_topi (fun x5 (e5 : x5 = I 6 3 o1) => ?_)
        have t5 : x5.toInt = (I 6 3 o1).toInt := by rw [e5]
        refine lv_istore (lv' := [(4, .int x5), (3, .ref o1), (0, .ref (g.2.2.1 12)), (1, .int a0), (2, .int a1)]) hx hb dX11_boost_47 hl (by decide) rfl (fun ls hl => ?_)
        refine lv_aload_n hx hb dX11_boost_49 rfl (lv_at hl 1 rfl) ?_
        refine lv_iload_n hx hb dX11_boost_50 rfl (lv_at hl 4 rfl) ?_
        refine rp_6_3 C hW (List.mem_append_right _ hm1) tw_143 dX11_boost_51 (fun H locs hW => ?_)
        refine lv_iload hx hb dX11_boost_54 (lv_at hl 0 rfl) ?_
        have hWr : WB g A s.heap H locs ((hv J [42] [] J), L, (hv I [] [(6, 3)] (up3 I 6 3 o1 a1)), P, E, N) (sgX g ++ dy) := by
          rw [← ag_hvE (J := J) (R := [42]) (F := []) ag_rf]
          rw [← ag_hvE (J := I) (R := []) (F := [(6, 3)]) (ag_up3 (Or.inr rfl) ag_rf)]
          exact hW
        exact end_i C hr hlocks (J, (up3 I 6 3 o1 a1)) hWr (by first | exact Or.inl ⟨by omega, by omega, show (up3 I 6 3 o1 a1) 6 3 = I 6 3 from by first | rfl | assumption⟩ | exact Or.inr (Or.inl ⟨by omega, by omega, show (up3 I 6 3 o1 a1) 6 3 = I 6 3 from by first | rfl | assumption⟩) | exact Or.inr (Or.inr (Or.inl ⟨by omega, by omega, show (up3 I 6 3 o1 a1) 6 3 = I 6 3 from by first | rfl | assumption⟩)) | exact Or.inr (Or.inr (Or.inr (⟨by first | rfl | (rw [← ho1]; assumption) | assumption, by omega, show (∀ b : Nat, b ≠ elt E P 20 a0.toNatClampNeg → (up3 I 6 3 o1 a1) 6 3 b = I 6 3 b) from by first | rfl | (rw [← ho1]; intro b hb; exact up3_a _ _ _ _ hb _ _) | (rw [← ho1]; exact up3_s _ _ _ _ _), show (up3 I 6 3 o1 a1) 6 3 (elt E P 20 a0.toNatClampNeg) = a1 from by first | rfl | (rw [← ho1]; intro b hb; exact up3_a _ _ _ _ hb _ _) | (rw [← ho1]; exact up3_s _ _ _ _ _)⟩)))) dX11_boost_56
      · have c4 : 99 < a1.toInt := tnle rfl kp99 c4
        refine lv_aload_n hx hb dX11_boost_36 rfl (lv_at hl 1 rfl) ?_
        refine lv_bipush (v := (-6)) hx hb dX11_boost_37 (by decide) ?_
        refine ci_ C hW (runV (x := (g.2.2.1 12)) (As := [.int (-6)]) (rest := []) (T := ((J, L, I, P, E, N), sgX g ++ dy)) C hW (c_X11_refuse l g J L I P E N dy H.size (-6) hwf) mi_X11_refuse tw_411 (recv_ (T := ((J, L, I, P, E, N), sgX g ++ dy)) C hW (mx_ rfl) rfl rfl) ⟨rfl, rfl, Nat.le_of_ble_eq_true rfl, Nat.le_of_ble_eq_true rfl⟩ rfl hl.1 rfl (Nat.le_of_ble_eq_true rfl) dX11_boost_39 ⟨Nat.le_of_ble_eq_true rfl, Nat.le_of_ble_eq_true rfl⟩) (fun r6 u6 H locs hp6 hW => ?_)
        have hc6 : ((r6 = (-6))) := hp6
        clear hp6
        have hr6 : r6.toInt = (-6) := by rw [hc6]; exact kn6
        have hW : WB g A s.heap H locs ((hv J [42] [] u6), L, I, P, E, N) (sgX g ++ dy) := hW
        have hWr : WB g A s.heap H locs ((hv J [42] [] (hv J [42] [] u6)), L, (hv I [] [(6, 3)] I), P, E, N) (sgX g ++ dy) := by
          rw [← ag_hvE (J := J) (R := [42]) (F := []) (ag_hv rfl rfl ag_rf)]
          rw [← ag_hvE (J := I) (R := []) (F := [(6, 3)]) ag_rf]
          exact hW
        exact end_i C hr hlocks ((hv J [42] [] u6), I) hWr (by first | exact Or.inl ⟨by omega, by omega, show I 6 3 = I 6 3 from by first | rfl | assumption⟩ | exact Or.inr (Or.inl ⟨by omega, by omega, show I 6 3 = I 6 3 from by first | rfl | assumption⟩) | exact Or.inr (Or.inr (Or.inl ⟨by omega, by omega, show I 6 3 = I 6 3 from by first | rfl | assumption⟩)) | exact Or.inr (Or.inr (Or.inr (⟨by first | rfl | (rw [← ho1]; assumption) | assumption, by omega, show (∀ b : Nat, b ≠ elt E P 20 a0.toNatClampNeg → I 6 3 b = I 6 3 b) from by first | rfl | (rw [← ho1]; intro b hb; exact up3_a _ _ _ _ hb _ _) | (rw [← ho1]; exact up3_s _ _ _ _ _), show I 6 3 (elt E P 20 a0.toNatClampNeg) = a1 from by first | rfl | (rw [← ho1]; intro b hb; exact up3_a _ _ _ _ hb _ _) | (rw [← ho1]; exact up3_s _ _ _ _ _)⟩)))) dX11_boost_42
    · have c3 : a1.toInt < 0 := tnle kp0 rfl c3
      refine lv_aload_n hx hb dX11_boost_23 rfl (lv_at hl 1 rfl) ?_
      refine lv_bipush (v := (-4)) hx hb dX11_boost_24 (by decide) ?_
      refine ci_ C hW (runV (x := (g.2.2.1 12)) (As := [.int (-4)]) (rest := []) (T := ((J, L, I, P, E, N), sgX g ++ dy)) C hW (c_X11_refuse l g J L I P E N dy H.size (-4) hwf) mi_X11_refuse tw_411 (recv_ (T := ((J, L, I, P, E, N), sgX g ++ dy)) C hW (mx_ rfl) rfl rfl) ⟨rfl, rfl, Nat.le_of_ble_eq_true rfl, Nat.le_of_ble_eq_true rfl⟩ rfl hl.1 rfl (Nat.le_of_ble_eq_true rfl) dX11_boost_26 ⟨Nat.le_of_ble_eq_true rfl, Nat.le_of_ble_eq_true rfl⟩) (fun r7 u7 H locs hp7 hW => ?_)
      have hc7 : ((r7 = (-4))) := hp7
      clear hp7
      have hr7 : r7.toInt = (-4) := by rw [hc7]; exact kn4
      have hW : WB g A s.heap H locs ((hv J [42] [] u7), L, I, P, E, N) (sgX g ++ dy) := hW
      have hWr : WB g A s.heap H locs ((hv J [42] [] (hv J [42] [] u7)), L, (hv I [] [(6, 3)] I), P, E, N) (sgX g ++ dy) := by
        rw [← ag_hvE (J := J) (R := [42]) (F := []) (ag_hv rfl rfl ag_rf)]
        rw [← ag_hvE (J := I) (R := []) (F := [(6, 3)]) ag_rf]
        exact hW
      exact end_i C hr hlocks ((hv J [42] [] u7), I) hWr (by first | exact Or.inl ⟨by omega, by omega, show I 6 3 = I 6 3 from by first | rfl | assumption⟩ | exact Or.inr (Or.inl ⟨by omega, by omega, show I 6 3 = I 6 3 from by first | rfl | assumption⟩) | exact Or.inr (Or.inr (Or.inl ⟨by omega, by omega, show I 6 3 = I 6 3 from by first | rfl | assumption⟩)) | exact Or.inr (Or.inr (Or.inr (⟨by first | rfl | (rw [← ho1]; assumption) | assumption, by omega, show (∀ b : Nat, b ≠ elt E P 20 a0.toNatClampNeg → I 6 3 b = I 6 3 b) from by first | rfl | (rw [← ho1]; intro b hb; exact up3_a _ _ _ _ hb _ _) | (rw [← ho1]; exact up3_s _ _ _ _ _), show I 6 3 (elt E P 20 a0.toNatClampNeg) = a1 from by first | rfl | (rw [← ho1]; intro b hb; exact up3_a _ _ _ _ hb _ _) | (rw [← ho1]; exact up3_s _ _ _ _ _)⟩)))) dX11_boost_29

set_option maxHeartbeats 4000000 in
set_option maxRecDepth 100000 in
theorem c_X11_could_e (l : Launch) (g : gG) (J : Nat → Nat → Int32) (L : Nat → Nat → Int64) (I : Nat → Nat → Nat → Int32) (P : Nat → Nat → Nat → Option Nat) (E : Nat → Option Nat) (N : Nat → Nat) (dy : List (Nat × Nat)) (sz : Nat) (a0 : Int32) (a1 : Int32) (hwf : WXF g J P E N dy) : Met l yX11_could (WS yX11_could cX11_could 5 (some .int)) (RM (8) 10 20100) (PC g [.ref (g.2.2.1 12), .int a0, .int a1] ((J, L, I, P, E, N), sgX g ++ dy) sz) (va_Qi (fun (r : Int32) (u : (Nat → Nat → Int32) × (Nat → Nat → Nat → Int32) × (Nat → Nat → Nat → Option Nat) × (Nat → Option Nat) × (Nat → Nat) × List (Nat × Nat)) => ((r.toInt = (-1) ∧ (¬ (0 ≤ a0.toInt ∧ a0.toInt < (J 20 2).toInt)) ∧ u.1 23 2 = J 23 2 ∧ ((I 6 4 (elt E P 20 a0.toNatClampNeg)).toInt ≤ 0 ∨ True) ∧ u.2.1 6 4 = I 6 4) ∨ (r.toInt = (-3) ∧ (0 ≤ a0.toInt ∧ a0.toInt < (J 20 2).toInt) ∧ u.1 23 2 = J 23 2 ∧ 0 < (I 6 4 (elt E P 20 a0.toNatClampNeg)).toInt ∧ u.2.1 6 4 = I 6 4) ∨ (r.toInt = (-4) ∧ (0 ≤ a0.toInt ∧ a0.toInt < (J 20 2).toInt ∧ a1.toInt < 1) ∧ u.1 23 2 = J 23 2 ∧ (I 6 4 (elt E P 20 a0.toNatClampNeg)).toInt ≤ 0 ∧ u.2.1 6 4 = I 6 4) ∨ (r.toInt = (-6) ∧ (0 ≤ a0.toInt ∧ a0.toInt < (J 20 2).toInt ∧ 1 ≤ a1.toInt ∧ (99 < a1.toInt ∨ 9 ≤ (J 23 2).toInt)) ∧ u.1 23 2 = J 23 2 ∧ (I 6 4 (elt E P 20 a0.toNatClampNeg)).toInt ≤ 0 ∧ u.2.1 6 4 = I 6 4) ∨ (r.toInt = (J 23 2).toInt ∧ (0 ≤ a0.toInt ∧ a0.toInt < (J 20 2).toInt ∧ 1 ≤ a1.toInt ∧ a1.toInt ≤ 99 ∧ (J 23 2).toInt ≤ 8) ∧ (u.1 23 2).toInt = (J 23 2).toInt + 1 ∧ (I 6 4 (elt E P 20 a0.toNatClampNeg)).toInt ≤ 0 ∧ (∀ b : Nat, b ≠ elt E P 20 a0.toNatClampNeg → u.2.1 6 4 b = I 6 4 b) ∧ u.2.1 6 4 (elt E P 20 a0.toNatClampNeg) = a1)) ∧ WXF g (hv J [42] [(23, 0), (23, 2)] u.1) (hv P [33] [] u.2.2.1) (hv1 E [23] u.2.2.2.1) u.2.2.2.2.1 u.2.2.2.2.2 ∧ (∀ x ∈ dy, x ∈ u.2.2.2.2.2)) (fun u t => at_ g (FR g ((J, L, I, P, E, N), sgX g ++ dy) sz) ((((hv J [42] [(23, 0), (23, 2)] u.1), L, (hv I [] [(6, 4)] u.2.1), (hv P [33] [] u.2.2.1), (hv1 E [23] u.2.2.2.1), u.2.2.2.2.1), sgX g ++ u.2.2.2.2.2)) t) (FR g ((J, L, I, P, E, N), sgX g ++ dy) sz)) 10 20100 (FR g ((J, L, I, P, E, N), sgX g ++ dy) sz) := by
  refine ent (by decide +kernel) (Nat.le_of_ble_eq_true rfl) ?_
  intro p e s m below meth c ls hsz C hW hr hlocks hname hl
  generalize FR g ((J, L, I, P, E, N), sgX g ++ dy) sz = A at C hW ⊢
  have hx := C.1.1
  have hb := C.1.2.1
  have hts := C.1.2.2.2.2
  have hl : lv_has ls 5 [(0, .ref (g.2.2.1 12)), (1, .int a0), (2, .int a1)] := hl
  obtain ⟨H, hH⟩ : ∃ H : Heap, H = s.heap := ⟨_, rfl⟩
  obtain ⟨locs, hlocs⟩ : ∃ q : List Loc, q = [] := ⟨_, rfl⟩
  have hW : WB g A s.heap H locs (J, L, I, P, E, N) (sgX g ++ dy) := by rw [hH, hlocs]; exact hW
  refine start_ hH hlocs ?_
  refine lv_aload_n hx hb dX11_could_0 rfl (lv_at hl 0 rfl) ?_
  refine rg_12_0 C hW (mx_ rfl) tw_364 dX11_could_1 ?_
  refine lv_iload_n hx hb dX11_could_4 rfl (lv_at hl 1 rfl) ?_
  refine cq_ C hW (runV (x := (g.2.2.1 4)) (As := [.int a0]) (rest := []) (T := ((J, L, I, P, E, N), sgX g ++ dy)) C hW (c_X3_nodeOf l g J L I P E N dy H.size a0 hwf) mi_X3_nodeOf tw_463 (recv_ (T := ((J, L, I, P, E, N), sgX g ++ dy)) C hW (mx_ rfl) rfl rfl) ⟨rfl, rfl, Nat.le_of_ble_eq_true rfl, Nat.le_of_ble_eq_true rfl⟩ rfl hl.1 rfl (Nat.le_of_ble_eq_true rfl) dX11_could_5 ⟨Nat.le_of_ble_eq_true rfl, Nat.le_of_ble_eq_true rfl⟩) (fun q1 u1 H locs hp1 hW => ?_)
  have hq1 : ((q1 = none ∧ (¬ (0 ≤ a0.toInt ∧ a0.toInt < (J 20 2).toInt))) ∨ (q1 = some (elt E P 20 a0.toNatClampNeg) ∧ (0 ≤ a0.toInt ∧ a0.toInt < (J 20 2).toInt))) := hp1
  clear hp1
  have hW : WB g A s.heap H locs (J, L, I, P, E, N) (sgX g ++ dy) := hW
  rcases hq1 with ⟨rfl, hn1⟩ | ⟨rfl, hs1⟩
  · refine lv_asv (v' := .null) rfl ?_
    refine lv_astore_nN (lv' := [(3, .null), (0, .ref (g.2.2.1 12)), (1, .int a0), (2, .int a1)]) hx hb dX11_could_8 rfl hl (by decide) rfl (fun ls hl => ?_)
    refine lv_aload_nN hx hb dX11_could_9 rfl (lv_at hl 0 rfl) ?_
    refine lv_ifnonnullN hx hb dX11_could_10 ?_
    refine lv_aload_n hx hb dX11_could_13 rfl (lv_at hl 1 rfl) ?_
    refine lv_iconst (v := (-1)) hx hb dX11_could_14 (by decide) ?_
    refine ci_ C hW (runV (x := (g.2.2.1 12)) (As := [.int (-1)]) (rest := []) (T := ((J, L, I, P, E, N), sgX g ++ dy)) C hW (c_X11_refuse l g J L I P E N dy H.size (-1) hwf) mi_X11_refuse tw_411 (recv_ (T := ((J, L, I, P, E, N), sgX g ++ dy)) C hW (mx_ rfl) rfl rfl) ⟨rfl, rfl, Nat.le_of_ble_eq_true rfl, Nat.le_of_ble_eq_true rfl⟩ rfl hl.1 rfl (Nat.le_of_ble_eq_true rfl) dX11_could_15 ⟨Nat.le_of_ble_eq_true rfl, Nat.le_of_ble_eq_true rfl⟩) (fun r2 u2 H locs hp2 hW => ?_)
    have hc2 : ((r2 = (-1))) := hp2
    clear hp2
    have hr2 : r2.toInt = (-1) := by rw [hc2]; exact kn1
    have hW : WB g A s.heap H locs ((hv J [42] [] u2), L, I, P, E, N) (sgX g ++ dy) := hW
    have hJe : (hv J [42] [] u2) = hv J [42] [(23, 0), (23, 2)] (hv J [42] [] u2) := ag_hvE (J := J) (R := [42]) (F := [(23, 0), (23, 2)]) (ag_hv rfl rfl ag_rf)
    have hIe : I = hv I [] [(6, 4)] I := ag_hvE (J := I) (R := []) (F := [(6, 4)]) ag_rf
    have hPe : P = hv P [33] [] P := ag_hvE (J := P) (R := [33]) (F := []) ag_rf
    have hEe : E = hv1 E [23] E := hv1_e (R := [23]) (fun _ _ => rfl)
    have hWr : WB g A s.heap H locs (hv J [42] [(23, 0), (23, 2)] (hv J [42] [] u2), L, hv I [] [(6, 4)] I, hv P [33] [] P, hv1 E [23] E, N) (sgX g ++ dy) := by
      rw [← hJe, ← hIe, ← hPe, ← hEe]; exact hW
    have hwr : WXF g (hv J [42] [(23, 0), (23, 2)] (hv J [42] [] u2)) (hv P [33] [] P) (hv1 E [23] E) N dy := by
      rw [← hJe, ← hPe, ← hEe]; exact hwf
    refine W.widen (k := 10) (n := 20100) (Nat.le_of_ble_eq_true rfl) (Nat.le_of_ble_eq_true rfl) ?_
    exact end_i C hr hlocks ((hv J [42] [] u2), I, P, E, N, dy) hWr ⟨by first | exact Or.inl ⟨by omega, by omega, show J 23 2 = J 23 2 from by first | rfl | exact Or.inr trivial, show ((I 6 4 (elt E P 20 a0.toNatClampNeg)).toInt ≤ 0 ∨ True) from by first | rfl | exact Or.inr trivial, show I 6 4 = I 6 4 from by first | rfl | exact Or.inr trivial⟩ | exact Or.inr (Or.inl ⟨by omega, by omega, show J 23 2 = J 23 2 from by first | rfl | (rw [← ho1]; omega) | omega, show 0 < (I 6 4 (elt E P 20 a0.toNatClampNeg)).toInt from by first | rfl | (rw [← ho1]; omega) | omega, show I 6 4 = I 6 4 from by first | rfl | (rw [← ho1]; omega) | omega⟩) | exact Or.inr (Or.inr (Or.inl ⟨by omega, by omega, show J 23 2 = J 23 2 from by first | rfl | (rw [← ho1]; omega) | omega, show (I 6 4 (elt E P 20 a0.toNatClampNeg)).toInt ≤ 0 from by first | rfl | (rw [← ho1]; omega) | omega, show I 6 4 = I 6 4 from by first | rfl | (rw [← ho1]; omega) | omega⟩)) | exact Or.inr (Or.inr (Or.inr (Or.inl ⟨by omega, by omega, show J 23 2 = J 23 2 from by first | rfl | (rw [← ho1]; omega) | omega, show (I 6 4 (elt E P 20 a0.toNatClampNeg)).toInt ≤ 0 from by first | rfl | (rw [← ho1]; omega) | omega, show I 6 4 = I 6 4 from by first | rfl | (rw [← ho1]; omega) | omega⟩))) | exact Or.inr (Or.inr (Or.inr (Or.inr (⟨by omega, by omega, show (J 23 2).toInt = (J 23 2).toInt + 1 from by first | rfl | omega | (rw [← ho1]; omega) | (rw [← ho1]; intro b hb; exact up3_a _ _ _ _ hb _ _) | (rw [← ho1]; exact up3_s _ _ _ _ _), show (I 6 4 (elt E P 20 a0.toNatClampNeg)).toInt ≤ 0 from by first | rfl | omega | (rw [← ho1]; omega) | (rw [← ho1]; intro b hb; exact up3_a _ _ _ _ hb _ _) | (rw [← ho1]; exact up3_s _ _ _ _ _), show (∀ b : Nat, b ≠ elt E P 20 a0.toNatClampNeg → I 6 4 b = I 6 4 b) from by first | rfl | omega | (rw [← ho1]; omega) | (rw [← ho1]; intro b hb; exact up3_a _ _ _ _ hb _ _) | (rw [← ho1]; exact up3_s _ _ _ _ _), show I 6 4 (elt E P 20 a0.toNatClampNeg) = a1 from by first | rfl | omega | (rw [← ho1]; omega) | (rw [← ho1]; intro b hb; exact up3_a _ _ _ _ hb _ _) | (rw [← ho1]; exact up3_s _ _ _ _ _)⟩)))), hwr, fun x hx => hx⟩ dX11_could_18
  · skip
    obtain ⟨o1, ho1⟩ : ∃ z : Nat, z = elt E P 20 a0.toNatClampNeg := ⟨_, rfl⟩
    have hm1 : (6, o1) ∈ dy := by rw [ho1]; exact (lw_mem (er := 6) hwf.1.1 (show (a0.toNatClampNeg : Int) < (J 20 2).toInt from by have := tcl a0; omega))
    refine lv_asv (v' := .ref o1) (by rw [ho1]; rfl) ?_
    refine lv_astore_n (lv' := [(3, .ref o1), (0, .ref (g.2.2.1 12)), (1, .int a0), (2, .int a1)]) hx hb dX11_could_8 rfl hl (by decide) rfl (fun ls hl => ?_)
    refine lv_aload_n hx hb dX11_could_9 rfl (lv_at hl 0 rfl) ?_
    refine lv_ifnonnull (tgt := 19) hx hb dX11_could_10 (by decide) ?_
    refine lv_aload_n hx hb dX11_could_19 rfl (lv_at hl 0 rfl) ?_
    refine rg_6_4 C hW (List.mem_append_right _ hm1) tw_145 dX11_could_20 ?_
    refine lv_topi (fun x3 (e3 : x3 = I 6 4 o1) => ?_)
    have t3 : x3.toInt = (I 6 4 o1).toInt := by rw [e3]
    refine lv_if_le (tgt := 33) hx hb dX11_could_23 (by decide) (fun c4 => ?_) (fun c4 => ?_)
    · have c4 : x3.toInt ≤ 0 := tle rfl kp0 c4
      refine lv_iload_n hx hb dX11_could_33 rfl (lv_at hl 3 rfl) ?_
      refine lv_iconst (v := 1) hx hb dX11_could_34 (by decide) ?_
      refine lv_icmp_ge (tgt := 45) hx hb dX11_could_35 (by decide) (fun c5 => ?_) (fun c5 => ?_)
      · have c5 : 1 ≤ a1.toInt := tle kp1 rfl c5
        refine lv_aload_n hx hb dX11_could_45 rfl (lv_at hl 1 rfl) ?_
        refine rg_12_0 C hW (mx_ rfl) tw_364 dX11_could_46 ?_
        refine rg_4_3 C hW (mx_ rfl) tw_239 dX11_could_49 ?_
        refine ci_ C hW (runV (x := (g.2.2.1 23)) (As := []) (rest := []) (T := ((J, L, I, P, E, N), sgX g ++ dy)) C hW (c_Jx4a65c_size_8abf5 l g J L I P E N dy H.size 23 rfl ) mi_Jx4a65c_size_8abf5 tw_485 (recv_ (T := ((J, L, I, P, E, N), sgX g ++ dy)) C hW (mx_ rfl) (cel_list rfl) rfl) ⟨rfl, rfl, Nat.le_of_ble_eq_true rfl, Nat.le_of_ble_eq_true rfl⟩ rfl hl.1 rfl (Nat.le_of_ble_eq_true rfl) dX11_could_52 ⟨Nat.le_of_ble_eq_true rfl, Nat.le_of_ble_eq_true rfl⟩) (fun r6 u6 H locs hp6 hW => ?_)
        have hc6 : ((r6 = J 23 2)) := hp6
        clear hp6
        have hr6 : r6 = J 23 2 := hc6
        refine lv_as (J 23 2) hr6 ?_
        have hW : WB g A s.heap H locs (J, L, I, P, E, N) (sgX g ++ dy) := hW
        refine lv_istore (lv' := [(4, .int (J 23 2)), (3, .ref o1), (0, .ref (g.2.2.1 12)), (1, .int a0), (2, .int a1)]) hx hb dX11_could_55 hl (by decide) rfl (fun ls hl => ?_)
        refine lv_iload_n hx hb dX11_could_57 rfl (lv_at hl 4 rfl) ?_
        refine lv_bipush (v := 99) hx hb dX11_could_58 (by decide) ?_
        refine lv_icmp_gt (tgt := 70) hx hb dX11_could_60 (by decide) (fun c7 => ?_) (fun c7 => ?_)
        · have c7 : 99 < a1.toInt := tlt kp99 rfl c7
          refine lv_aload_n hx hb dX11_could_70 rfl (lv_at hl 2 rfl) ?_
          refine lv_bipush (v := (-6)) hx hb dX11_could_71 (by decide) ?_
          refine ci_ C hW (runV (x := (g.2.2.1 12)) (As := [.int (-6)]) (rest := []) (T := ((J, L, I, P, E, N), sgX g ++ dy)) C hW (c_X11_refuse l g J L I P E N dy H.size (-6) hwf) mi_X11_refuse tw_411 (recv_ (T := ((J, L, I, P, E, N), sgX g ++ dy)) C hW (mx_ rfl) rfl rfl) ⟨rfl, rfl, Nat.le_of_ble_eq_true rfl, Nat.le_of_ble_eq_true rfl⟩ rfl hl.1 rfl (Nat.le_of_ble_eq_true rfl) dX11_could_73 ⟨Nat.le_of_ble_eq_true rfl, Nat.le_of_ble_eq_true rfl⟩) (fun r8 u8 H locs hp8 hW => ?_)
          have hc8 : ((r8 = (-6))) := hp8
          clear hp8
          have hr8 : r8.toInt = (-6) := by rw [hc8]; exact kn6
          have hW : WB g A s.heap H locs ((hv J [42] [] u8), L, I, P, E, N) (sgX g ++ dy) := hW
          have hJe : (hv J [42] [] u8) = hv J [42] [(23, 0), (23, 2)] (hv J [42] [] u8) := ag_hvE (J := J) (R := [42]) (F := [(23, 0), (23, 2)]) (ag_hv rfl rfl ag_rf)
          have hIe : I = hv I [] [(6, 4)] I := ag_hvE (J := I) (R := []) (F := [(6, 4)]) ag_rf
          have hPe : P = hv P [33] [] P := ag_hvE (J := P) (R := [33]) (F := []) ag_rf
          have hEe : E = hv1 E [23] E := hv1_e (R := [23]) (fun _ _ => rfl)
          have hWr : WB g A s.heap H locs (hv J [42] [(23, 0), (23, 2)] (hv J [42] [] u8), L, hv I [] [(6, 4)] I, hv P [33] [] P, hv1 E [23] E, N) (sgX g ++ dy) := by
            rw [← hJe, ← hIe, ← hPe, ← hEe]; exact hW
          have hwr : WXF g (hv J [42] [(23, 0), (23, 2)] (hv J [42] [] u8)) (hv P [33] [] P) (hv1 E [23] E) N dy := by
            rw [← hJe, ← hPe, ← hEe]; exact hwf
          refine W.widen (k := 10) (n := 20100) (Nat.le_of_ble_eq_true rfl) (Nat.le_of_ble_eq_true rfl) ?_
          exact end_i C hr hlocks ((hv J [42] [] u8), I, P, E, N, dy) hWr ⟨by first | exact Or.inl ⟨by omega, by omega, show J 23 2 = J 23 2 from by first | rfl | exact Or.inr trivial, show ((I 6 4 (elt E P 20 a0.toNatClampNeg)).toInt ≤ 0 ∨ True) from by first | rfl | exact Or.inr trivial, show I 6 4 = I 6 4 from by first | rfl | exact Or.inr trivial⟩ | exact Or.inr (Or.inl ⟨by omega, by omega, show J 23 2 = J 23 2 from by first | rfl | (rw [← ho1]; omega) | omega, show 0 < (I 6 4 (elt E P 20 a0.toNatClampNeg)).toInt from by first | rfl | (rw [← ho1]; omega) | omega, show I 6 4 = I 6 4 from by first | rfl | (rw [← ho1]; omega) | omega⟩) | exact Or.inr (Or.inr (Or.inl ⟨by omega, by omega, show J 23 2 = J 23 2 from by first | rfl | (rw [← ho1]; omega) | omega, show (I 6 4 (elt E P 20 a0.toNatClampNeg)).toInt ≤ 0 from by first | rfl | (rw [← ho1]; omega) | omega, show I 6 4 = I 6 4 from by first | rfl | (rw [← ho1]; omega) | omega⟩)) | exact Or.inr (Or.inr (Or.inr (Or.inl ⟨by omega, by omega, show J 23 2 = J 23 2 from by first | rfl | (rw [← ho1]; omega) | omega, show (I 6 4 (elt E P 20 a0.toNatClampNeg)).toInt ≤ 0 from by first | rfl | (rw [← ho1]; omega) | omega, show I 6 4 = I 6 4 from by first | rfl | (rw [← ho1]; omega) | omega⟩))) | exact Or.inr (Or.inr (Or.inr (Or.inr (⟨by omega, by omega, show (J 23 2).toInt = (J 23 2).toInt + 1 from by first | rfl | omega | (rw [← ho1]; omega) | (rw [← ho1]; intro b hb; exact up3_a _ _ _ _ hb _ _) | (rw [← ho1]; exact up3_s _ _ _ _ _), show (I 6 4 (elt E P 20 a0.toNatClampNeg)).toInt ≤ 0 from by first | rfl | omega | (rw [← ho1]; omega) | (rw [← ho1]; intro b hb; exact up3_a _ _ _ _ hb _ _) | (rw [← ho1]; exact up3_s _ _ _ _ _), show (∀ b : Nat, b ≠ elt E P 20 a0.toNatClampNeg → I 6 4 b = I 6 4 b) from by first | rfl | omega | (rw [← ho1]; omega) | (rw [← ho1]; intro b hb; exact up3_a _ _ _ _ hb _ _) | (rw [← ho1]; exact up3_s _ _ _ _ _), show I 6 4 (elt E P 20 a0.toNatClampNeg) = a1 from by first | rfl | omega | (rw [← ho1]; omega) | (rw [← ho1]; intro b hb; exact up3_a _ _ _ _ hb _ _) | (rw [← ho1]; exact up3_s _ _ _ _ _)⟩)))), hwr, fun x hx => hx⟩ dX11_could_76
        · have c7 : a1.toInt ≤ 99 := tnlt kp99 rfl c7
          refine lv_iload hx hb dX11_could_63 (lv_at hl 0 rfl) ?_
          refine lv_bipush (v := 9) hx hb dX11_could_65 (by decide) ?_
          refine lv_icmp_lt (tgt := 77) hx hb dX11_could_67 (by decide) (fun c9 => ?_) (fun c9 => ?_)
          · have c9 : (J 23 2).toInt < 9 := tlt rfl kp9 c9
            refine lv_aload_n hx hb dX11_could_77 rfl (lv_at hl 1 rfl) ?_
            refine lv_iload_n hx hb dX11_could_78 rfl (lv_at hl 4 rfl) ?_
            refine rp_6_4 C hW (List.mem_append_right _ hm1) tw_145 dX11_could_79 (fun H locs hW => ?_)
            refine lv_aload_n hx hb dX11_could_82 rfl (lv_at hl 2 rfl) ?_
            refine rg_12_0 C hW (mx_ rfl) tw_364 dX11_could_83 ?_
            refine rg_4_3 C hW (mx_ rfl) tw_239 dX11_could_86 ?_
            refine lv_aload_n hx hb dX11_could_89 rfl (lv_at hl 1 rfl) ?_
            refine ci_ C hW (runV (x := (g.2.2.1 23)) (As := [.ref o1]) (rest := []) (T := ((J, L, (up3 I 6 4 o1 a1), P, E, N), sgX g ++ dy)) C hW (c_Jx4a65c_add_9ea2d l g J L (up3 I 6 4 o1 a1) P E N dy H.size 6 23 rfl rfl o1 hm1 hwf.1.2.2.2 (show (J 23 2).toInt ≤ 9999 from by omega)) mi_Jx4a65c_add_9ea2d tw_488 (recv_ (T := ((J, L, (up3 I 6 4 o1 a1), P, E, N), sgX g ++ dy)) C hW (mx_ rfl) (cel_list rfl) rfl) ⟨rfl, rfl, Nat.le_of_ble_eq_true rfl, Nat.le_of_ble_eq_true rfl⟩ rfl hl.1 rfl (Nat.le_of_ble_eq_true rfl) dX11_could_90 ⟨Nat.le_of_ble_eq_true rfl, Nat.le_of_ble_eq_true rfl⟩) (fun r10 u10 H locs hp10 hW => ?_)
            obtain ⟨hc10, hG10, hL10, hE10, hF10⟩ := hp10
            have hlo10 : 0 ≤ (J 23 2).toInt := (hwf.1.2.2.2).1
            have ht10 : (J 23 2 + 1).toInt = (J 23 2).toInt + 1 := tadd rfl rfl kp1 (by omega)
            have hW : WB g A s.heap H locs ((up2 (up2 J 23 0 u10.1) 23 2 (J 23 2 + 1)), L, (up3 I 6 4 o1 a1), (hv P [33] [] u10.2.1), (up1 E 23 u10.2.2.1), u10.2.2.2.1) (sgX g ++ u10.2.2.2.2) := hW
            have hwf : WXF g (up2 (up2 J 23 0 u10.1) 23 2 (J 23 2 + 1)) (hv P [33] [] u10.2.1) (up1 E 23 u10.2.2.1) u10.2.2.2.1 u10.2.2.2.2 := wxf_add23 hwf hG10 hL10
            refine lv_pop hx hb dX11_could_93 rfl ?_
            refine lv_iload hx hb dX11_could_94 (lv_at hl 0 rfl) ?_
            have hF9 : elt (up1 E 23 u10.2.2.1) (hv P [33] [] u10.2.1) 23 (J 23 2).toNatClampNeg = o1 := hF10
            have hJe : (up2 (up2 J 23 0 u10.1) 23 2 (J 23 2 + 1)) = hv J [42] [(23, 0), (23, 2)] (up2 (up2 J 23 0 u10.1) 23 2 (J 23 2 + 1)) := ag_hvE (J := J) (R := [42]) (F := [(23, 0), (23, 2)]) (ag_up (Or.inr rfl) (ag_up (Or.inr rfl) ag_rf))
            have hIe : (up3 I 6 4 o1 a1) = hv I [] [(6, 4)] (up3 I 6 4 o1 a1) := ag_hvE (J := I) (R := []) (F := [(6, 4)]) (ag_up3 (Or.inr rfl) ag_rf)
            have hPe : (hv P [33] [] u10.2.1) = hv P [33] [] (hv P [33] [] u10.2.1) := ag_hvE (J := P) (R := [33]) (F := []) (ag_hv rfl rfl ag_rf)
            have hEe : (up1 E 23 u10.2.2.1) = hv1 E [23] (up1 E 23 u10.2.2.1) := hv1_e (R := [23]) (up1_ag rfl (fun _ _ => rfl))
            have hWr : WB g A s.heap H locs (hv J [42] [(23, 0), (23, 2)] (up2 (up2 J 23 0 u10.1) 23 2 (J 23 2 + 1)), L, hv I [] [(6, 4)] (up3 I 6 4 o1 a1), hv P [33] [] (hv P [33] [] u10.2.1), hv1 E [23] (up1 E 23 u10.2.2.1), u10.2.2.2.1) (sgX g ++ u10.2.2.2.2) := by
              rw [← hJe, ← hIe, ← hPe, ← hEe]; exact hW
            have hwr : WXF g (hv J [42] [(23, 0), (23, 2)] (up2 (up2 J 23 0 u10.1) 23 2 (J 23 2 + 1))) (hv P [33] [] (hv P [33] [] u10.2.1)) (hv1 E [23] (up1 E 23 u10.2.2.1)) u10.2.2.2.1 u10.2.2.2.2 := by
              rw [← hJe, ← hPe, ← hEe]; exact hwf
            refine W.widen (k := 10) (n := 20100) (Nat.le_of_ble_eq_true rfl) (Nat.le_of_ble_eq_true rfl) ?_
            exact end_i C hr hlocks ((up2 (up2 J 23 0 u10.1) 23 2 (J 23 2 + 1)), (up3 I 6 4 o1 a1), (hv P [33] [] u10.2.1), (up1 E 23 u10.2.2.1), u10.2.2.2.1, u10.2.2.2.2) hWr ⟨by first | exact Or.inl ⟨by omega, by omega, show J 23 2 + 1 = J 23 2 from by first | rfl | exact Or.inr trivial, show ((I 6 4 (elt E P 20 a0.toNatClampNeg)).toInt ≤ 0 ∨ True) from by first | rfl | exact Or.inr trivial, show (up3 I 6 4 o1 a1) 6 4 = I 6 4 from by first | rfl | exact Or.inr trivial⟩ | exact Or.inr (Or.inl ⟨by omega, by omega, show J 23 2 + 1 = J 23 2 from by first | rfl | (rw [← ho1]; omega) | omega, show 0 < (I 6 4 (elt E P 20 a0.toNatClampNeg)).toInt from by first | rfl | (rw [← ho1]; omega) | omega, show (up3 I 6 4 o1 a1) 6 4 = I 6 4 from by first | rfl | (rw [← ho1]; omega) | omega⟩) | exact Or.inr (Or.inr (Or.inl ⟨by omega, by omega, show J 23 2 + 1 = J 23 2 from by first | rfl | (rw [← ho1]; omega) | omega, show (I 6 4 (elt E P 20 a0.toNatClampNeg)).toInt ≤ 0 from by first | rfl | (rw [← ho1]; omega) | omega, show (up3 I 6 4 o1 a1) 6 4 = I 6 4 from by first | rfl | (rw [← ho1]; omega) | omega⟩)) | exact Or.inr (Or.inr (Or.inr (Or.inl ⟨by omega, by omega, show J 23 2 + 1 = J 23 2 from by first | rfl | (rw [← ho1]; omega) | omega, show (I 6 4 (elt E P 20 a0.toNatClampNeg)).toInt ≤ 0 from by first | rfl | (rw [← ho1]; omega) | omega, show (up3 I 6 4 o1 a1) 6 4 = I 6 4 from by first | rfl | (rw [← ho1]; omega) | omega⟩))) | exact Or.inr (Or.inr (Or.inr (Or.inr (⟨by omega, by omega, show (J 23 2 + 1).toInt = (J 23 2).toInt + 1 from by first | rfl | omega | (rw [← ho1]; omega) | (rw [← ho1]; intro b hb; exact up3_a _ _ _ _ hb _ _) | (rw [← ho1]; exact up3_s _ _ _ _ _), show (I 6 4 (elt E P 20 a0.toNatClampNeg)).toInt ≤ 0 from by first | rfl | omega | (rw [← ho1]; omega) | (rw [← ho1]; intro b hb; exact up3_a _ _ _ _ hb _ _) | (rw [← ho1]; exact up3_s _ _ _ _ _), show (∀ b : Nat, b ≠ elt E P 20 a0.toNatClampNeg → (up3 I 6 4 o1 a1) 6 4 b = I 6 4 b) from by first | rfl | omega | (rw [← ho1]; omega) | (rw [← ho1]; intro b hb; exact up3_a _ _ _ _ hb _ _) | (rw [← ho1]; exact up3_s _ _ _ _ _), show (up3 I 6 4 o1 a1) 6 4 (elt E P 20 a0.toNatClampNeg) = a1 from by first | rfl | omega | (rw [← ho1]; omega) | (rw [← ho1]; intro b hb; exact up3_a _ _ _ _ hb _ _) | (rw [← ho1]; exact up3_s _ _ _ _ _)⟩)))), hwr, fun x hx => hG10.1 x ((fun x hx => hx) x hx)⟩ dX11_could_96
          · have c9 : 9 ≤ (J 23 2).toInt := tnlt rfl kp9 c9
            refine lv_aload_n hx hb dX11_could_70 rfl (lv_at hl 2 rfl) ?_
            refine lv_bipush (v := (-6)) hx hb dX11_could_71 (by decide) ?_
            refine ci_ C hW (runV (x := (g.2.2.1 12)) (As := [.int (-6)]) (rest := []) (T := ((J, L, I, P, E, N), sgX g ++ dy)) C hW (c_X11_refuse l g J L I P E N dy H.size (-6) hwf) mi_X11_refuse tw_411 (recv_ (T := ((J, L, I, P, E, N), sgX g ++ dy)) C hW (mx_ rfl) rfl rfl) ⟨rfl, rfl, Nat.le_of_ble_eq_true rfl, Nat.le_of_ble_eq_true rfl⟩ rfl hl.1 rfl (Nat.le_of_ble_eq_true rfl) dX11_could_73 ⟨Nat.le_of_ble_eq_true rfl, Nat.le_of_ble_eq_true rfl⟩) (fun r11 u11 H locs hp11 hW => ?_)
            have hc11 : ((r11 = (-6))) := hp11
            clear hp11
            have hr11 : r11.toInt = (-6) := by rw [hc11]; exact kn6
            have hW : WB g A s.heap H locs ((hv J [42] [] u11), L, I, P, E, N) (sgX g ++ dy) := hW
            have hJe : (hv J [42] [] u11) = hv J [42] [(23, 0), (23, 2)] (hv J [42] [] u11) := ag_hvE (J := J) (R := [42]) (F := [(23, 0), (23, 2)]) (ag_hv rfl rfl ag_rf)
            have hIe : I = hv I [] [(6, 4)] I := ag_hvE (J := I) (R := []) (F := [(6, 4)]) ag_rf
            have hPe : P = hv P [33] [] P := ag_hvE (J := P) (R := [33]) (F := []) ag_rf
            have hEe : E = hv1 E [23] E := hv1_e (R := [23]) (fun _ _ => rfl)
            have hWr : WB g A s.heap H locs (hv J [42] [(23, 0), (23, 2)] (hv J [42] [] u11), L, hv I [] [(6, 4)] I, hv P [33] [] P, hv1 E [23] E, N) (sgX g ++ dy) := by
              rw [← hJe, ← hIe, ← hPe, ← hEe]; exact hW
            have hwr : WXF g (hv J [42] [(23, 0), (23, 2)] (hv J [42] [] u11)) (hv P [33] [] P) (hv1 E [23] E) N dy := by
              rw [← hJe, ← hPe, ← hEe]; exact hwf
            refine W.widen (k := 10) (n := 20100) (Nat.le_of_ble_eq_true rfl) (Nat.le_of_ble_eq_true rfl) ?_
            exact end_i C hr hlocks ((hv J [42] [] u11), I, P, E, N, dy) hWr ⟨by first | exact Or.inl ⟨by omega, by omega, show J 23 2 = J 23 2 from by first | rfl | exact Or.inr trivial, show ((I 6 4 (elt E P 20 a0.toNatClampNeg)).toInt ≤ 0 ∨ True) from by first | rfl | exact Or.inr trivial, show I 6 4 = I 6 4 from by first | rfl | exact Or.inr trivial⟩ | exact Or.inr (Or.inl ⟨by omega, by omega, show J 23 2 = J 23 2 from by first | rfl | (rw [← ho1]; omega) | omega, show 0 < (I 6 4 (elt E P 20 a0.toNatClampNeg)).toInt from by first | rfl | (rw [← ho1]; omega) | omega, show I 6 4 = I 6 4 from by first | rfl | (rw [← ho1]; omega) | omega⟩) | exact Or.inr (Or.inr (Or.inl ⟨by omega, by omega, show J 23 2 = J 23 2 from by first | rfl | (rw [← ho1]; omega) | omega, show (I 6 4 (elt E P 20 a0.toNatClampNeg)).toInt ≤ 0 from by first | rfl | (rw [← ho1]; omega) | omega, show I 6 4 = I 6 4 from by first | rfl | (rw [← ho1]; omega) | omega⟩)) | exact Or.inr (Or.inr (Or.inr (Or.inl ⟨by omega, by omega, show J 23 2 = J 23 2 from by first | rfl | (rw [← ho1]; omega) | omega, show (I 6 4 (elt E P 20 a0.toNatClampNeg)).toInt ≤ 0 from by first | rfl | (rw [← ho1]; omega) | omega, show I 6 4 = I 6 4 from by first | rfl | (rw [← ho1]; omega) | omega⟩))) | exact Or.inr (Or.inr (Or.inr (Or.inr (⟨by omega, by omega, show (J 23 2).toInt = (J 23 2).toInt + 1 from by first | rfl | omega | (rw [← ho1]; omega) | (rw [← ho1]; intro b hb; exact up3_a _ _ _ _ hb _ _) | (rw [← ho1]; exact up3_s _ _ _ _ _), show (I 6 4 (elt E P 20 a0.toNatClampNeg)).toInt ≤ 0 from by first | rfl | omega | (rw [← ho1]; omega) | (rw [← ho1]; intro b hb; exact up3_a _ _ _ _ hb _ _) | (rw [← ho1]; exact up3_s _ _ _ _ _), show (∀ b : Nat, b ≠ elt E P 20 a0.toNatClampNeg → I 6 4 b = I 6 4 b) from by first | rfl | omega | (rw [← ho1]; omega) | (rw [← ho1]; intro b hb; exact up3_a _ _ _ _ hb _ _) | (rw [← ho1]; exact up3_s _ _ _ _ _), show I 6 4 (elt E P 20 a0.toNatClampNeg) = a1 from by first | rfl | omega | (rw [← ho1]; omega) | (rw [← ho1]; intro b hb; exact up3_a _ _ _ _ hb _ _) | (rw [← ho1]; exact up3_s _ _ _ _ _)⟩)))), hwr, fun x hx => hx⟩ dX11_could_76
      · have c5 : a1.toInt < 1 := tnle kp1 rfl c5
        refine lv_aload_n hx hb dX11_could_38 rfl (lv_at hl 1 rfl) ?_
        refine lv_bipush (v := (-4)) hx hb dX11_could_39 (by decide) ?_
        refine ci_ C hW (runV (x := (g.2.2.1 12)) (As := [.int (-4)]) (rest := []) (T := ((J, L, I, P, E, N), sgX g ++ dy)) C hW (c_X11_refuse l g J L I P E N dy H.size (-4) hwf) mi_X11_refuse tw_411 (recv_ (T := ((J, L, I, P, E, N), sgX g ++ dy)) C hW (mx_ rfl) rfl rfl) ⟨rfl, rfl, Nat.le_of_ble_eq_true rfl, Nat.le_of_ble_eq_true rfl⟩ rfl hl.1 rfl (Nat.le_of_ble_eq_true rfl) dX11_could_41 ⟨Nat.le_of_ble_eq_true rfl, Nat.le_of_ble_eq_true rfl⟩) (fun r12 u12 H locs hp12 hW => ?_)
        have hc12 : ((r12 = (-4))) := hp12
        clear hp12
        have hr12 : r12.toInt = (-4) := by rw [hc12]; exact kn4
        have hW : WB g A s.heap H locs ((hv J [42] [] u12), L, I, P, E, N) (sgX g ++ dy) := hW
        have hJe : (hv J [42] [] u12) = hv J [42] [(23, 0), (23, 2)] (hv J [42] [] u12) := ag_hvE (J := J) (R := [42]) (F := [(23, 0), (23, 2)]) (ag_hv rfl rfl ag_rf)
        have hIe : I = hv I [] [(6, 4)] I := ag_hvE (J := I) (R := []) (F := [(6, 4)]) ag_rf
        have hPe : P = hv P [33] [] P := ag_hvE (J := P) (R := [33]) (F := []) ag_rf
        have hEe : E = hv1 E [23] E := hv1_e (R := [23]) (fun _ _ => rfl)
        have hWr : WB g A s.heap H locs (hv J [42] [(23, 0), (23, 2)] (hv J [42] [] u12), L, hv I [] [(6, 4)] I, hv P [33] [] P, hv1 E [23] E, N) (sgX g ++ dy) := by
          rw [← hJe, ← hIe, ← hPe, ← hEe]; exact hW
        have hwr : WXF g (hv J [42] [(23, 0), (23, 2)] (hv J [42] [] u12)) (hv P [33] [] P) (hv1 E [23] E) N dy := by
          rw [← hJe, ← hPe, ← hEe]; exact hwf
        refine W.widen (k := 10) (n := 20100) (Nat.le_of_ble_eq_true rfl) (Nat.le_of_ble_eq_true rfl) ?_
        exact end_i C hr hlocks ((hv J [42] [] u12), I, P, E, N, dy) hWr ⟨by first | exact Or.inl ⟨by omega, by omega, show J 23 2 = J 23 2 from by first | rfl | exact Or.inr trivial, show ((I 6 4 (elt E P 20 a0.toNatClampNeg)).toInt ≤ 0 ∨ True) from by first | rfl | exact Or.inr trivial, show I 6 4 = I 6 4 from by first | rfl | exact Or.inr trivial⟩ | exact Or.inr (Or.inl ⟨by omega, by omega, show J 23 2 = J 23 2 from by first | rfl | (rw [← ho1]; omega) | omega, show 0 < (I 6 4 (elt E P 20 a0.toNatClampNeg)).toInt from by first | rfl | (rw [← ho1]; omega) | omega, show I 6 4 = I 6 4 from by first | rfl | (rw [← ho1]; omega) | omega⟩) | exact Or.inr (Or.inr (Or.inl ⟨by omega, by omega, show J 23 2 = J 23 2 from by first | rfl | (rw [← ho1]; omega) | omega, show (I 6 4 (elt E P 20 a0.toNatClampNeg)).toInt ≤ 0 from by first | rfl | (rw [← ho1]; omega) | omega, show I 6 4 = I 6 4 from by first | rfl | (rw [← ho1]; omega) | omega⟩)) | exact Or.inr (Or.inr (Or.inr (Or.inl ⟨by omega, by omega, show J 23 2 = J 23 2 from by first | rfl | (rw [← ho1]; omega) | omega, show (I 6 4 (elt E P 20 a0.toNatClampNeg)).toInt ≤ 0 from by first | rfl | (rw [← ho1]; omega) | omega, show I 6 4 = I 6 4 from by first | rfl | (rw [← ho1]; omega) | omega⟩))) | exact Or.inr (Or.inr (Or.inr (Or.inr (⟨by omega, by omega, show (J 23 2).toInt = (J 23 2).toInt + 1 from by first | rfl | omega | (rw [← ho1]; omega) | (rw [← ho1]; intro b hb; exact up3_a _ _ _ _ hb _ _) | (rw [← ho1]; exact up3_s _ _ _ _ _), show (I 6 4 (elt E P 20 a0.toNatClampNeg)).toInt ≤ 0 from by first | rfl | omega | (rw [← ho1]; omega) | (rw [← ho1]; intro b hb; exact up3_a _ _ _ _ hb _ _) | (rw [← ho1]; exact up3_s _ _ _ _ _), show (∀ b : Nat, b ≠ elt E P 20 a0.toNatClampNeg → I 6 4 b = I 6 4 b) from by first | rfl | omega | (rw [← ho1]; omega) | (rw [← ho1]; intro b hb; exact up3_a _ _ _ _ hb _ _) | (rw [← ho1]; exact up3_s _ _ _ _ _), show I 6 4 (elt E P 20 a0.toNatClampNeg) = a1 from by first | rfl | omega | (rw [← ho1]; omega) | (rw [← ho1]; intro b hb; exact up3_a _ _ _ _ hb _ _) | (rw [← ho1]; exact up3_s _ _ _ _ _)⟩)))), hwr, fun x hx => hx⟩ dX11_could_44
    · have c4 : 0 < x3.toInt := tnle rfl kp0 c4
      refine lv_aload_n hx hb dX11_could_26 rfl (lv_at hl 1 rfl) ?_
      refine lv_bipush (v := (-3)) hx hb dX11_could_27 (by decide) ?_
      refine ci_ C hW (runV (x := (g.2.2.1 12)) (As := [.int (-3)]) (rest := []) (T := ((J, L, I, P, E, N), sgX g ++ dy)) C hW (c_X11_refuse l g J L I P E N dy H.size (-3) hwf) mi_X11_refuse tw_411 (recv_ (T := ((J, L, I, P, E, N), sgX g ++ dy)) C hW (mx_ rfl) rfl rfl) ⟨rfl, rfl, Nat.le_of_ble_eq_true rfl, Nat.le_of_ble_eq_true rfl⟩ rfl hl.1 rfl (Nat.le_of_ble_eq_true rfl) dX11_could_29 ⟨Nat.le_of_ble_eq_true rfl, Nat.le_of_ble_eq_true rfl⟩) (fun r13 u13 H locs hp13 hW => ?_)
      have hc13 : ((r13 = (-3))) := hp13
      clear hp13
      have hr13 : r13.toInt = (-3) := by rw [hc13]; exact kn3
      have hW : WB g A s.heap H locs ((hv J [42] [] u13), L, I, P, E, N) (sgX g ++ dy) := hW
      have hJe : (hv J [42] [] u13) = hv J [42] [(23, 0), (23, 2)] (hv J [42] [] u13) := ag_hvE (J := J) (R := [42]) (F := [(23, 0), (23, 2)]) (ag_hv rfl rfl ag_rf)
      have hIe : I = hv I [] [(6, 4)] I := ag_hvE (J := I) (R := []) (F := [(6, 4)]) ag_rf
      have hPe : P = hv P [33] [] P := ag_hvE (J := P) (R := [33]) (F := []) ag_rf
      have hEe : E = hv1 E [23] E := hv1_e (R := [23]) (fun _ _ => rfl)
      have hWr : WB g A s.heap H locs (hv J [42] [(23, 0), (23, 2)] (hv J [42] [] u13), L, hv I [] [(6, 4)] I, hv P [33] [] P, hv1 E [23] E, N) (sgX g ++ dy) := by
        rw [← hJe, ← hIe, ← hPe, ← hEe]; exact hW
      have hwr : WXF g (hv J [42] [(23, 0), (23, 2)] (hv J [42] [] u13)) (hv P [33] [] P) (hv1 E [23] E) N dy := by
        rw [← hJe, ← hPe, ← hEe]; exact hwf
      refine W.widen (k := 10) (n := 20100) (Nat.le_of_ble_eq_true rfl) (Nat.le_of_ble_eq_true rfl) ?_
      exact end_i C hr hlocks ((hv J [42] [] u13), I, P, E, N, dy) hWr ⟨by first | exact Or.inl ⟨by omega, by omega, show J 23 2 = J 23 2 from by first | rfl | exact Or.inr trivial, show ((I 6 4 (elt E P 20 a0.toNatClampNeg)).toInt ≤ 0 ∨ True) from by first | rfl | exact Or.inr trivial, show I 6 4 = I 6 4 from by first | rfl | exact Or.inr trivial⟩ | exact Or.inr (Or.inl ⟨by omega, by omega, show J 23 2 = J 23 2 from by first | rfl | (rw [← ho1]; omega) | omega, show 0 < (I 6 4 (elt E P 20 a0.toNatClampNeg)).toInt from by first | rfl | (rw [← ho1]; omega) | omega, show I 6 4 = I 6 4 from by first | rfl | (rw [← ho1]; omega) | omega⟩) | exact Or.inr (Or.inr (Or.inl ⟨by omega, by omega, show J 23 2 = J 23 2 from by first | rfl | (rw [← ho1]; omega) | omega, show (I 6 4 (elt E P 20 a0.toNatClampNeg)).toInt ≤ 0 from by first | rfl | (rw [← ho1]; omega) | omega, show I 6 4 = I 6 4 from by first | rfl | (rw [← ho1]; omega) | omega⟩)) | exact Or.inr (Or.inr (Or.inr (Or.inl ⟨by omega, by omega, show J 23 2 = J 23 2 from by first | rfl | (rw [← ho1]; omega) | omega, show (I 6 4 (elt E P 20 a0.toNatClampNeg)).toInt ≤ 0 from by first | rfl | (rw [← ho1]; omega) | omega, show I 6 4 = I 6 4 from by first | rfl | (rw [← ho1]; omega) | omega⟩))) | exact Or.inr (Or.inr (Or.inr (Or.inr (⟨by omega, by omega, show (J 23 2).toInt = (J 23 2).toInt + 1 from by first | rfl | omega | (rw [← ho1]; omega) | (rw [← ho1]; intro b hb; exact up3_a _ _ _ _ hb _ _) | (rw [← ho1]; exact up3_s _ _ _ _ _), show (I 6 4 (elt E P 20 a0.toNatClampNeg)).toInt ≤ 0 from by first | rfl | omega | (rw [← ho1]; omega) | (rw [← ho1]; intro b hb; exact up3_a _ _ _ _ hb _ _) | (rw [← ho1]; exact up3_s _ _ _ _ _), show (∀ b : Nat, b ≠ elt E P 20 a0.toNatClampNeg → I 6 4 b = I 6 4 b) from by first | rfl | omega | (rw [← ho1]; omega) | (rw [← ho1]; intro b hb; exact up3_a _ _ _ _ hb _ _) | (rw [← ho1]; exact up3_s _ _ _ _ _), show I 6 4 (elt E P 20 a0.toNatClampNeg) = a1 from by first | rfl | omega | (rw [← ho1]; omega) | (rw [← ho1]; intro b hb; exact up3_a _ _ _ _ hb _ _) | (rw [← ho1]; exact up3_s _ _ _ _ _)⟩)))), hwr, fun x hx => hx⟩ dX11_could_32

set_option maxHeartbeats 4000000 in
set_option maxRecDepth 100000 in
theorem c_X11_complain_e (l : Launch) (g : gG) (J : Nat → Nat → Int32) (L : Nat → Nat → Int64) (I : Nat → Nat → Nat → Int32) (P : Nat → Nat → Nat → Option Nat) (E : Nat → Option Nat) (N : Nat → Nat) (dy : List (Nat × Nat)) (sz : Nat) (a0 : Int32) (a1 : Int32) (hwf : WXF g J P E N dy) (hb01 : a1 = 0 ∨ a1 = 1) : Met l yX11_complain (WS yX11_complain cX11_complain 4 (some .int)) (RM (5) 0 0) (PC g [.ref (g.2.2.1 12), .int a0, .int a1] ((J, L, I, P, E, N), sgX g ++ dy) sz) (va_Qi (fun (r : Int32) (u : (Nat → Nat → Int32) × (Nat → Nat → Nat → Int32)) => ((r.toInt = (-1) ∧ (¬ (0 ≤ a0.toInt ∧ a0.toInt < (J 22 2).toInt)) ∧ u.2 2 4 = I 2 4) ∨ (r.toInt = 0 ∧ (0 ≤ a0.toInt ∧ a0.toInt < (J 22 2).toInt) ∧ (I 2 4 (elt E P 22 a0.toNatClampNeg)).toInt = a1.toInt ∧ u.2 2 4 = I 2 4) ∨ (r.toInt = 1 ∧ (0 ≤ a0.toInt ∧ a0.toInt < (J 22 2).toInt) ∧ ¬ (I 2 4 (elt E P 22 a0.toNatClampNeg)).toInt = a1.toInt ∧ (∀ b : Nat, b ≠ elt E P 22 a0.toNatClampNeg → u.2 2 4 b = I 2 4 b) ∧ u.2 2 4 (elt E P 22 a0.toNatClampNeg) = a1))) (fun u t => at_ g (FR g ((J, L, I, P, E, N), sgX g ++ dy) sz) (((hv J [42] [] u.1), L, (hv I [] [(2, 4)] u.2), P, E, N), sgX g ++ dy) t) (FR g ((J, L, I, P, E, N), sgX g ++ dy) sz)) 0 0 (FR g ((J, L, I, P, E, N), sgX g ++ dy) sz) := by
  refine ent (by decide +kernel) (Nat.le_of_ble_eq_true rfl) ?_
  intro p e s m below meth c ls hsz C hW hr hlocks hname hl
  generalize FR g ((J, L, I, P, E, N), sgX g ++ dy) sz = A at C hW ⊢
  have hx := C.1.1
  have hb := C.1.2.1
  have hts := C.1.2.2.2.2
  have hl : lv_has ls 4 [(0, .ref (g.2.2.1 12)), (1, .int a0), (2, .int a1)] := hl
  obtain ⟨H, hH⟩ : ∃ H : Heap, H = s.heap := ⟨_, rfl⟩
  obtain ⟨locs, hlocs⟩ : ∃ q : List Loc, q = [] := ⟨_, rfl⟩
  have hW : WB g A s.heap H locs (J, L, I, P, E, N) (sgX g ++ dy) := by rw [hH, hlocs]; exact hW
  refine start_ hH hlocs ?_
  refine lv_aload_n hx hb dX11_complain_0 rfl (lv_at hl 0 rfl) ?_
  refine rg_12_0 C hW (mx_ rfl) tw_364 dX11_complain_1 ?_
  refine lv_iload_n hx hb dX11_complain_4 rfl (lv_at hl 1 rfl) ?_
  refine cq_ C hW (runV (x := (g.2.2.1 4)) (As := [.int a0]) (rest := []) (T := ((J, L, I, P, E, N), sgX g ++ dy)) C hW (c_X3_homeOf l g J L I P E N dy H.size a0 hwf) mi_X3_homeOf tw_576 (recv_ (T := ((J, L, I, P, E, N), sgX g ++ dy)) C hW (mx_ rfl) rfl rfl) ⟨rfl, rfl, Nat.le_of_ble_eq_true rfl, Nat.le_of_ble_eq_true rfl⟩ rfl hl.1 rfl (Nat.le_of_ble_eq_true rfl) dX11_complain_5 ⟨Nat.le_of_ble_eq_true rfl, Nat.le_of_ble_eq_true rfl⟩) (fun q1 u1 H locs hp1 hW => ?_)
  have hq1 : ((q1 = none ∧ (¬ (0 ≤ a0.toInt ∧ a0.toInt < (J 22 2).toInt))) ∨ (q1 = some (elt E P 22 a0.toNatClampNeg) ∧ (0 ≤ a0.toInt ∧ a0.toInt < (J 22 2).toInt))) := hp1
  clear hp1
  have hW : WB g A s.heap H locs (J, L, I, P, E, N) (sgX g ++ dy) := hW
  rcases hq1 with ⟨rfl, hn1⟩ | ⟨rfl, hs1⟩
  · refine lv_asv (v' := .null) rfl ?_
    refine lv_astore_nN (lv' := [(3, .null), (0, .ref (g.2.2.1 12)), (1, .int a0), (2, .int a1)]) hx hb dX11_complain_8 rfl hl (by decide) rfl (fun ls hl => ?_)
    refine lv_aload_nN hx hb dX11_complain_9 rfl (lv_at hl 0 rfl) ?_
    refine lv_ifnonnullN hx hb dX11_complain_10 ?_
    refine lv_aload_n hx hb dX11_complain_13 rfl (lv_at hl 1 rfl) ?_
    refine lv_iconst (v := (-1)) hx hb dX11_complain_14 (by decide) ?_
    refine ci_ C hW (runV (x := (g.2.2.1 12)) (As := [.int (-1)]) (rest := []) (T := ((J, L, I, P, E, N), sgX g ++ dy)) C hW (c_X11_refuse l g J L I P E N dy H.size (-1) hwf) mi_X11_refuse tw_411 (recv_ (T := ((J, L, I, P, E, N), sgX g ++ dy)) C hW (mx_ rfl) rfl rfl) ⟨rfl, rfl, Nat.le_of_ble_eq_true rfl, Nat.le_of_ble_eq_true rfl⟩ rfl hl.1 rfl (Nat.le_of_ble_eq_true rfl) dX11_complain_15 ⟨Nat.le_of_ble_eq_true rfl, Nat.le_of_ble_eq_true rfl⟩) (fun r2 u2 H locs hp2 hW => ?_)
    have hc2 : ((r2 = (-1))) := hp2
    clear hp2
    have hr2 : r2.toInt = (-1) := by rw [hc2]; exact kn1
    have hW : WB g A s.heap H locs ((hv J [42] [] u2), L, I, P, E, N) (sgX g ++ dy) := hW
    have hWr : WB g A s.heap H locs ((hv J [42] [] (hv J [42] [] u2)), L, (hv I [] [(2, 4)] I), P, E, N) (sgX g ++ dy) := by
      rw [← ag_hvE (J := J) (R := [42]) (F := []) (ag_hv rfl rfl ag_rf)]
      rw [← ag_hvE (J := I) (R := []) (F := [(2, 4)]) ag_rf]
      exact hW
    exact end_i C hr hlocks ((hv J [42] [] u2), I) hWr (by first | exact Or.inl ⟨by omega, by omega, show I 2 4 = I 2 4 from by first | rfl | assumption⟩ | exact Or.inr (Or.inl ⟨by omega, by omega, show (I 2 4 (elt E P 22 a0.toNatClampNeg)).toInt = a1.toInt from by first | rfl | (rw [← ho1]; omega), show I 2 4 = I 2 4 from by first | rfl | (rw [← ho1]; omega)⟩) | exact Or.inr (Or.inr (⟨by omega, by omega, show ¬ (I 2 4 (elt E P 22 a0.toNatClampNeg)).toInt = a1.toInt from by first | (rw [← ho1]; omega) | rfl | (rw [← ho1]; intro b hb; exact up3_a _ _ _ _ hb _ _) | (rw [← ho1]; exact up3_s _ _ _ _ _), show (∀ b : Nat, b ≠ elt E P 22 a0.toNatClampNeg → I 2 4 b = I 2 4 b) from by first | (rw [← ho1]; omega) | rfl | (rw [← ho1]; intro b hb; exact up3_a _ _ _ _ hb _ _) | (rw [← ho1]; exact up3_s _ _ _ _ _), show I 2 4 (elt E P 22 a0.toNatClampNeg) = a1 from by first | (rw [← ho1]; omega) | rfl | (rw [← ho1]; intro b hb; exact up3_a _ _ _ _ hb _ _) | (rw [← ho1]; exact up3_s _ _ _ _ _)⟩))) dX11_complain_18
  · skip
    obtain ⟨o1, ho1⟩ : ∃ z : Nat, z = elt E P 22 a0.toNatClampNeg := ⟨_, rfl⟩
    have hm1 : (2, o1) ∈ dy := by rw [ho1]; exact (lw_mem (er := 2) hwf.1.2.2.1 (show (a0.toNatClampNeg : Int) < (J 22 2).toInt from by have := tcl a0; omega))
    refine lv_asv (v' := .ref o1) (by rw [ho1]; rfl) ?_
    refine lv_astore_n (lv' := [(3, .ref o1), (0, .ref (g.2.2.1 12)), (1, .int a0), (2, .int a1)]) hx hb dX11_complain_8 rfl hl (by decide) rfl (fun ls hl => ?_)
    refine lv_aload_n hx hb dX11_complain_9 rfl (lv_at hl 0 rfl) ?_
    refine lv_ifnonnull (tgt := 19) hx hb dX11_complain_10 (by decide) ?_
    refine lv_aload_n hx hb dX11_complain_19 rfl (lv_at hl 0 rfl) ?_
    refine rg_2_4 C hW (List.mem_append_right _ hm1) tw_556 dX11_complain_20 ?_
    refine lv_topi (fun x3 (e3 : x3 = I 2 4 o1) => ?_)
    have t3 : x3.toInt = (I 2 4 o1).toInt := by rw [e3]
    refine lv_iload_n hx hb dX11_complain_23 rfl (lv_at hl 3 rfl) ?_
    refine lv_icmp_ne (tgt := 29) hx hb dX11_complain_24 (by decide) (fun c4 => ?_) (fun c4 => ?_)
    · have c4 : ¬ x3.toInt = a1.toInt := tne rfl rfl c4
      refine lv_aload_n hx hb dX11_complain_29 rfl (lv_at hl 0 rfl) ?_
      refine lv_iload_n hx hb dX11_complain_30 rfl (lv_at hl 3 rfl) ?_
      refine rp_2_4 C hW (List.mem_append_right _ hm1) tw_556 (hb01) dX11_complain_31 (fun H locs hW => ?_)
      refine lv_iconst (v := 1) hx hb dX11_complain_34 (by decide) ?_
      have hWr : WB g A s.heap H locs ((hv J [42] [] J), L, (hv I [] [(2, 4)] (up3 I 2 4 o1 a1)), P, E, N) (sgX g ++ dy) := by
        rw [← ag_hvE (J := J) (R := [42]) (F := []) ag_rf]
        rw [← ag_hvE (J := I) (R := []) (F := [(2, 4)]) (ag_up3 (Or.inr rfl) ag_rf)]
        exact hW
      exact end_i C hr hlocks (J, (up3 I 2 4 o1 a1)) hWr (by first | exact Or.inr (Or.inr (⟨by decide, by omega, show ¬ (I 2 4 (elt E P 22 a0.toNatClampNeg)).toInt = a1.toInt from by first | (rw [← ho1]; omega) | rfl | (rw [← ho1]; intro b hb; exact up3_a _ _ _ _ hb _ _) | (rw [← ho1]; exact up3_s _ _ _ _ _), show (∀ b : Nat, b ≠ elt E P 22 a0.toNatClampNeg → (up3 I 2 4 o1 a1) 2 4 b = I 2 4 b) from by first | (rw [← ho1]; omega) | rfl | (rw [← ho1]; intro b hb; exact up3_a _ _ _ _ hb _ _) | (rw [← ho1]; exact up3_s _ _ _ _ _), show (up3 I 2 4 o1 a1) 2 4 (elt E P 22 a0.toNatClampNeg) = a1 from by first | (rw [← ho1]; omega) | rfl | (rw [← ho1]; intro b hb; exact up3_a _ _ _ _ hb _ _) | (rw [← ho1]; exact up3_s _ _ _ _ _)⟩))) dX11_complain_35
    · have c4 : x3.toInt = a1.toInt := teq rfl rfl c4
      refine lv_iconst (v := 0) hx hb dX11_complain_27 (by decide) ?_
      have hWr : WB g A s.heap H locs ((hv J [42] [] J), L, (hv I [] [(2, 4)] I), P, E, N) (sgX g ++ dy) := by
        rw [← ag_hvE (J := J) (R := [42]) (F := []) ag_rf]
        rw [← ag_hvE (J := I) (R := []) (F := [(2, 4)]) ag_rf]
        exact hW
      exact end_i C hr hlocks (J, I) hWr (by first | exact Or.inr (Or.inl ⟨by decide, by omega, show (I 2 4 (elt E P 22 a0.toNatClampNeg)).toInt = a1.toInt from by first | rfl | (rw [← ho1]; omega), show I 2 4 = I 2 4 from by first | rfl | (rw [← ho1]; omega)⟩)) dX11_complain_28

set_option maxHeartbeats 4000000 in
set_option maxRecDepth 100000 in
theorem c_X11_sold_e (l : Launch) (g : gG) (J : Nat → Nat → Int32) (L : Nat → Nat → Int64) (I : Nat → Nat → Nat → Int32) (P : Nat → Nat → Nat → Option Nat) (E : Nat → Option Nat) (N : Nat → Nat) (dy : List (Nat × Nat)) (sz : Nat) (a0 : Int32) (a1 : Int32) (hwf : WXF g J P E N dy) (hac : 0 ≤ (J 12 10).toInt) : Met l yX11_sold (WS yX11_sold cX11_sold 4 (some .int)) (RM (2) 0 0) (PC g [.ref (g.2.2.1 12), .int a0, .int a1] ((J, L, I, P, E, N), sgX g ++ dy) sz) (va_Qi (fun (r : Int32) (u : (Nat → Nat → Int32)) => ((r.toInt = (-4) ∧ (a1.toInt < 0)) ∨ (r.toInt = (-6) ∧ (5 ≤ a1.toInt)) ∨ (r.toInt = (-9) ∧ (0 ≤ a1.toInt ∧ a1.toInt ≤ 4 ∧ (a0.toInt < 0 ∨ 40 ≤ a0.toInt ∨ (J 12 10).toInt ≤ 5 * a0.toInt + a1.toInt ∨ 200 ≤ 5 * a0.toInt + a1.toInt))) ∨ (r = r ∧ (0 ≤ a1.toInt ∧ a1.toInt ≤ 4 ∧ 0 ≤ a0.toInt ∧ a0.toInt ≤ 39 ∧ 5 * a0.toInt + a1.toInt < (J 12 10).toInt ∧ 5 * a0.toInt + a1.toInt < 200))) ∧ (0 ≤ a1.toInt ∧ a1.toInt ≤ 4 ∧ 0 ≤ a0.toInt ∧ a0.toInt ≤ 39 ∧ 5 * a0.toInt + a1.toInt < (J 12 10).toInt ∧ 5 * a0.toInt + a1.toInt < 200 → r = J 40 (5 * a0.toInt + a1.toInt).toNat)) (fun u t => at_ g (FR g ((J, L, I, P, E, N), sgX g ++ dy) sz) (((hv J [42] [] u), L, I, P, E, N), sgX g ++ dy) t) (FR g ((J, L, I, P, E, N), sgX g ++ dy) sz)) 0 0 (FR g ((J, L, I, P, E, N), sgX g ++ dy) sz) := by
  refine ent (by decide +kernel) (Nat.le_of_ble_eq_true rfl) ?_
  intro p e s m below meth c ls hsz C hW hr hlocks hname hl
  generalize FR g ((J, L, I, P, E, N), sgX g ++ dy) sz = A at C hW ⊢
  have hx := C.1.1
  have hb := C.1.2.1
  have hts := C.1.2.2.2.2
  have hl : lv_has ls 4 [(0, .ref (g.2.2.1 12)), (1, .int a0), (2, .int a1)] := hl
  obtain ⟨H, hH⟩ : ∃ H : Heap, H = s.heap := ⟨_, rfl⟩
  obtain ⟨locs, hlocs⟩ : ∃ q : List Loc, q = [] := ⟨_, rfl⟩
  have hW : WB g A s.heap H locs (J, L, I, P, E, N) (sgX g ++ dy) := by rw [hH, hlocs]; exact hW
  refine start_ hH hlocs ?_
  refine lv_iload_n hx hb dX11_sold_0 rfl (lv_at hl 2 rfl) ?_
  refine lv_if_ge (tgt := 11) hx hb dX11_sold_1 (by decide) (fun c1 => ?_) (fun c1 => ?_)
  · have c1 : 0 ≤ a1.toInt := tle kp0 rfl c1
    refine lv_iload_n hx hb dX11_sold_11 rfl (lv_at hl 2 rfl) ?_
    refine lv_iconst (v := 5) hx hb dX11_sold_12 (by decide) ?_
    refine lv_icmp_lt (tgt := 23) hx hb dX11_sold_13 (by decide) (fun c2 => ?_) (fun c2 => ?_)
    · have c2 : a1.toInt < 5 := tlt rfl kp5 c2
      refine lv_iload_n hx hb dX11_sold_23 rfl (lv_at hl 1 rfl) ?_
      refine lv_if_lt (tgt := 33) hx hb dX11_sold_24 (by decide) (fun c3 => ?_) (fun c3 => ?_)
      · have c3 : a0.toInt < 0 := tlt rfl kp0 c3
        refine lv_bipush (v := (-9)) hx hb dX11_sold_33 (by decide) ?_
        have hWr : WB g A s.heap H locs ((hv J [42] [] J), L, I, P, E, N) (sgX g ++ dy) := by
          rw [← ag_hvE (J := J) (R := [42]) (F := []) ag_rf]
          exact hW
        exact end_i C hr hlocks J hWr ⟨by first | exact Or.inr (Or.inr (Or.inl ⟨by decide, by omega⟩)) | exact Or.inr (Or.inr (Or.inr (⟨by first | rfl | assumption, by omega⟩))), show 0 ≤ a1.toInt ∧ a1.toInt ≤ 4 ∧ 0 ≤ a0.toInt ∧ a0.toInt ≤ 39 ∧ 5 * a0.toInt + a1.toInt < (J 12 10).toInt ∧ 5 * a0.toInt + a1.toInt < 200 → (-9) = J 40 (5 * a0.toInt + a1.toInt).toNat from by intro h9; exfalso; omega⟩ dX11_sold_35
      · have c3 : 0 ≤ a0.toInt := tnlt rfl kp0 c3
        refine lv_iload_n hx hb dX11_sold_27 rfl (lv_at hl 1 rfl) ?_
        refine lv_bipush (v := 40) hx hb dX11_sold_28 (by decide) ?_
        refine lv_icmp_lt (tgt := 36) hx hb dX11_sold_30 (by decide) (fun c4 => ?_) (fun c4 => ?_)
        · have c4 : a0.toInt < 40 := tlt rfl kp40 c4
          refine lv_iload_n hx hb dX11_sold_36 rfl (lv_at hl 1 rfl) ?_
          refine lv_iconst (v := 5) hx hb dX11_sold_37 (by decide) ?_
          refine lv_imul hx hb dX11_sold_38 ?_
          refine lv_topi (fun x5 (e5 : x5 = a0 * 5) => ?_)
          try have t5 : x5.toInt = a0.toInt * 5 := tmul e5 rfl kp5 (by omega)
          refine lv_iload_n hx hb dX11_sold_39 rfl (lv_at hl 2 rfl) ?_
          refine lv_iadd hx hb dX11_sold_40 ?_
          refine lv_topi (fun x6 (e6 : x6 = x5 + a1) => ?_)
          try have t6 : x6.toInt = x5.toInt + a1.toInt := tadd e6 rfl rfl (by omega)
          refine lv_istore_n (lv' := [(3, .int x6), (0, .ref (g.2.2.1 12)), (1, .int a0), (2, .int a1)]) hx hb dX11_sold_41 rfl hl (by decide) rfl (fun ls hl => ?_)
          refine lv_iload_n hx hb dX11_sold_42 rfl (lv_at hl 0 rfl) ?_
          refine lv_aload_n hx hb dX11_sold_43 rfl (lv_at hl 1 rfl) ?_
          refine rg_12_10 C hW (mx_ rfl) tw_374 dX11_sold_44 ?_
          refine lv_icmp_ge (tgt := 68) hx hb dX11_sold_47 (by decide) (fun c7 => ?_) (fun c7 => ?_)
          · have c7 : (J 12 10).toInt ≤ x6.toInt := tle rfl rfl c7
            refine lv_bipush (v := (-9)) hx hb dX11_sold_68 (by decide) ?_
            have hWr : WB g A s.heap H locs ((hv J [42] [] J), L, I, P, E, N) (sgX g ++ dy) := by
              rw [← ag_hvE (J := J) (R := [42]) (F := []) ag_rf]
              exact hW
            exact end_i C hr hlocks J hWr ⟨by first | exact Or.inr (Or.inr (Or.inl ⟨by decide, by omega⟩)) | exact Or.inr (Or.inr (Or.inr (⟨by first | rfl | assumption, by omega⟩))), show 0 ≤ a1.toInt ∧ a1.toInt ≤ 4 ∧ 0 ≤ a0.toInt ∧ a0.toInt ≤ 39 ∧ 5 * a0.toInt + a1.toInt < (J 12 10).toInt ∧ 5 * a0.toInt + a1.toInt < 200 → (-9) = J 40 (5 * a0.toInt + a1.toInt).toNat from by intro h9; exfalso; omega⟩ dX11_sold_70
          · have c7 : x6.toInt < (J 12 10).toInt := tnle rfl rfl c7
            refine lv_iload_n hx hb dX11_sold_50 rfl (lv_at hl 0 rfl) ?_
            refine lv_aload_n hx hb dX11_sold_51 rfl (lv_at hl 1 rfl) ?_
            refine rg_12_7 C hW (mx_ rfl) tw_371 dX11_sold_52 ?_
            refine rl_40 C hW (mx_ rfl) dX11_sold_55 ?_
            refine lv_icmp_ge (tgt := 68) hx hb dX11_sold_56 (by decide) (fun c8 => ?_) (fun c8 => ?_)
            · have c8 : 200 ≤ x6.toInt := tle kp200 rfl c8
              refine lv_bipush (v := (-9)) hx hb dX11_sold_68 (by decide) ?_
              have hWr : WB g A s.heap H locs ((hv J [42] [] J), L, I, P, E, N) (sgX g ++ dy) := by
                rw [← ag_hvE (J := J) (R := [42]) (F := []) ag_rf]
                exact hW
              exact end_i C hr hlocks J hWr ⟨by first | exact Or.inr (Or.inr (Or.inl ⟨by decide, by omega⟩)) | exact Or.inr (Or.inr (Or.inr (⟨by first | rfl | assumption, by omega⟩))), show 0 ≤ a1.toInt ∧ a1.toInt ≤ 4 ∧ 0 ≤ a0.toInt ∧ a0.toInt ≤ 39 ∧ 5 * a0.toInt + a1.toInt < (J 12 10).toInt ∧ 5 * a0.toInt + a1.toInt < 200 → (-9) = J 40 (5 * a0.toInt + a1.toInt).toNat from by intro h9; exfalso; omega⟩ dX11_sold_70
            · have c8 : x6.toInt < 200 := tnle kp200 rfl c8
              refine lv_aload_n hx hb dX11_sold_59 rfl (lv_at hl 1 rfl) ?_
              refine rg_12_7 C hW (mx_ rfl) tw_371 dX11_sold_60 ?_
              refine lv_iload_n hx hb dX11_sold_63 rfl (lv_at hl 0 rfl) ?_
              have hin : vp_in x6 200 := tin rfl (by omega)
              refine ra_40 C hW (mx_ rfl) hin dX11_sold_64 ?_
              refine lv_topi (fun x9 (e9 : x9 = J 40 x6.toNatClampNeg) => ?_)
              refine lv_goto (tgt := 70) hx hb dX11_sold_65 (by decide) ?_
              have hWr : WB g A s.heap H locs ((hv J [42] [] J), L, I, P, E, N) (sgX g ++ dy) := by
                rw [← ag_hvE (J := J) (R := [42]) (F := []) ag_rf]
                exact hW
              exact end_i C hr hlocks J hWr ⟨by first | exact Or.inl ⟨by omega, by omega⟩ | exact Or.inr (Or.inl ⟨by omega, by omega⟩) | exact Or.inr (Or.inr (Or.inl ⟨by omega, by omega⟩)) | exact Or.inr (Or.inr (Or.inr (⟨by first | rfl | assumption, by omega⟩))), show 0 ≤ a1.toInt ∧ a1.toInt ≤ 4 ∧ 0 ≤ a0.toInt ∧ a0.toInt ≤ 39 ∧ 5 * a0.toInt + a1.toInt < (J 12 10).toInt ∧ 5 * a0.toInt + a1.toInt < 200 → x9 = J 40 (5 * a0.toInt + a1.toInt).toNat from by intro h9; rw [e9]; congr 1; have h8 := tcl x6; omega⟩ dX11_sold_70
        · have c4 : 40 ≤ a0.toInt := tnlt rfl kp40 c4
          refine lv_bipush (v := (-9)) hx hb dX11_sold_33 (by decide) ?_
          have hWr : WB g A s.heap H locs ((hv J [42] [] J), L, I, P, E, N) (sgX g ++ dy) := by
            rw [← ag_hvE (J := J) (R := [42]) (F := []) ag_rf]
            exact hW
          exact end_i C hr hlocks J hWr ⟨by first | exact Or.inr (Or.inr (Or.inl ⟨by decide, by omega⟩)) | exact Or.inr (Or.inr (Or.inr (⟨by first | rfl | assumption, by omega⟩))), show 0 ≤ a1.toInt ∧ a1.toInt ≤ 4 ∧ 0 ≤ a0.toInt ∧ a0.toInt ≤ 39 ∧ 5 * a0.toInt + a1.toInt < (J 12 10).toInt ∧ 5 * a0.toInt + a1.toInt < 200 → (-9) = J 40 (5 * a0.toInt + a1.toInt).toNat from by intro h9; exfalso; omega⟩ dX11_sold_35
    · have c2 : 5 ≤ a1.toInt := tnlt rfl kp5 c2
      refine lv_aload_n hx hb dX11_sold_16 rfl (lv_at hl 0 rfl) ?_
      refine lv_bipush (v := (-6)) hx hb dX11_sold_17 (by decide) ?_
      refine ci_ C hW (runV (x := (g.2.2.1 12)) (As := [.int (-6)]) (rest := []) (T := ((J, L, I, P, E, N), sgX g ++ dy)) C hW (c_X11_refuse l g J L I P E N dy H.size (-6) hwf) mi_X11_refuse tw_411 (recv_ (T := ((J, L, I, P, E, N), sgX g ++ dy)) C hW (mx_ rfl) rfl rfl) ⟨rfl, rfl, Nat.le_of_ble_eq_true rfl, Nat.le_of_ble_eq_true rfl⟩ rfl hl.1 rfl (Nat.le_of_ble_eq_true rfl) dX11_sold_19 ⟨Nat.le_of_ble_eq_true rfl, Nat.le_of_ble_eq_true rfl⟩) (fun r10 u10 H locs hp10 hW => ?_)
      have hc10 : ((r10 = (-6))) := hp10
      clear hp10
      have hr10 : r10.toInt = (-6) := by rw [hc10]; exact kn6
      have hW : WB g A s.heap H locs ((hv J [42] [] u10), L, I, P, E, N) (sgX g ++ dy) := hW
      have hWr : WB g A s.heap H locs ((hv J [42] [] (hv J [42] [] u10)), L, I, P, E, N) (sgX g ++ dy) := by
        rw [← ag_hvE (J := J) (R := [42]) (F := []) (ag_hv rfl rfl ag_rf)]
        exact hW
      exact end_i C hr hlocks (hv J [42] [] u10) hWr ⟨by first | exact Or.inl ⟨by omega, by omega⟩ | exact Or.inr (Or.inl ⟨by omega, by omega⟩) | exact Or.inr (Or.inr (Or.inl ⟨by omega, by omega⟩)) | exact Or.inr (Or.inr (Or.inr (⟨by first | rfl | assumption, by omega⟩))), show 0 ≤ a1.toInt ∧ a1.toInt ≤ 4 ∧ 0 ≤ a0.toInt ∧ a0.toInt ≤ 39 ∧ 5 * a0.toInt + a1.toInt < (J 12 10).toInt ∧ 5 * a0.toInt + a1.toInt < 200 → r10 = J 40 (5 * a0.toInt + a1.toInt).toNat from by intro h9; exfalso; omega⟩ dX11_sold_22
  · have c1 : a1.toInt < 0 := tnle kp0 rfl c1
    refine lv_aload_n hx hb dX11_sold_4 rfl (lv_at hl 0 rfl) ?_
    refine lv_bipush (v := (-4)) hx hb dX11_sold_5 (by decide) ?_
    refine ci_ C hW (runV (x := (g.2.2.1 12)) (As := [.int (-4)]) (rest := []) (T := ((J, L, I, P, E, N), sgX g ++ dy)) C hW (c_X11_refuse l g J L I P E N dy H.size (-4) hwf) mi_X11_refuse tw_411 (recv_ (T := ((J, L, I, P, E, N), sgX g ++ dy)) C hW (mx_ rfl) rfl rfl) ⟨rfl, rfl, Nat.le_of_ble_eq_true rfl, Nat.le_of_ble_eq_true rfl⟩ rfl hl.1 rfl (Nat.le_of_ble_eq_true rfl) dX11_sold_7 ⟨Nat.le_of_ble_eq_true rfl, Nat.le_of_ble_eq_true rfl⟩) (fun r11 u11 H locs hp11 hW => ?_)
    have hc11 : ((r11 = (-4))) := hp11
    clear hp11
    have hr11 : r11.toInt = (-4) := by rw [hc11]; exact kn4
    have hW : WB g A s.heap H locs ((hv J [42] [] u11), L, I, P, E, N) (sgX g ++ dy) := hW
    have hWr : WB g A s.heap H locs ((hv J [42] [] (hv J [42] [] u11)), L, I, P, E, N) (sgX g ++ dy) := by
      rw [← ag_hvE (J := J) (R := [42]) (F := []) (ag_hv rfl rfl ag_rf)]
      exact hW
    exact end_i C hr hlocks (hv J [42] [] u11) hWr ⟨by first | exact Or.inl ⟨by omega, by omega⟩ | exact Or.inr (Or.inl ⟨by omega, by omega⟩) | exact Or.inr (Or.inr (Or.inl ⟨by omega, by omega⟩)) | exact Or.inr (Or.inr (Or.inr (⟨by first | rfl | assumption, by omega⟩))), show 0 ≤ a1.toInt ∧ a1.toInt ≤ 4 ∧ 0 ≤ a0.toInt ∧ a0.toInt ≤ 39 ∧ 5 * a0.toInt + a1.toInt < (J 12 10).toInt ∧ 5 * a0.toInt + a1.toInt < 200 → r11 = J 40 (5 * a0.toInt + a1.toInt).toNat from by intro h9; exfalso; omega⟩ dX11_sold_10

set_option maxHeartbeats 4000000 in
set_option maxRecDepth 100000 in
theorem c_X11_advert_e (l : Launch) (g : gG) (J : Nat → Nat → Int32) (L : Nat → Nat → Int64) (I : Nat → Nat → Nat → Int32) (P : Nat → Nat → Nat → Option Nat) (E : Nat → Option Nat) (N : Nat → Nat) (dy : List (Nat × Nat)) (sz : Nat) (a0 : Int32) (hwf : WXF g J P E N dy) (hac : 0 ≤ (J 12 10).toInt) : Met l yX11_advert (WS yX11_advert cX11_advert 3 (some .int)) (RM (2) 0 0) (PC g [.ref (g.2.2.1 12), .int a0] ((J, L, I, P, E, N), sgX g ++ dy) sz) (va_Qi (fun (r : Int32) (u : (Nat → Nat → Int32)) => ((r.toInt = (-4) ∧ (a0.toInt < 0) ∧ u 12 10 = J 12 10 ∧ u 40 = J 40) ∨ (r.toInt = (-6) ∧ (0 ≤ a0.toInt ∧ (9 < a0.toInt ∨ 200 ≤ (J 12 10).toInt)) ∧ u 12 10 = J 12 10 ∧ u 40 = J 40) ∨ (r.toInt = (J 12 10).toInt / 5 ∧ (0 ≤ a0.toInt ∧ a0.toInt ≤ 9 ∧ (J 12 10).toInt ≤ 199) ∧ (u 12 10).toInt = (J 12 10).toInt + 1 ∧ u 40 = up2 J 40 (J 12 10).toNatClampNeg a0 40)) ∧ (0 ≤ (u 12 10).toInt)) (fun u t => at_ g (FR g ((J, L, I, P, E, N), sgX g ++ dy) sz) (((hv J [40, 42] [(12, 10)] u), L, I, P, E, N), sgX g ++ dy) t) (FR g ((J, L, I, P, E, N), sgX g ++ dy) sz)) 0 0 (FR g ((J, L, I, P, E, N), sgX g ++ dy) sz) := by
  refine ent (by decide +kernel) (Nat.le_of_ble_eq_true rfl) ?_
  intro p e s m below meth c ls hsz C hW hr hlocks hname hl
  generalize FR g ((J, L, I, P, E, N), sgX g ++ dy) sz = A at C hW ⊢
  have hx := C.1.1
  have hb := C.1.2.1
  have hts := C.1.2.2.2.2
  have hl : lv_has ls 3 [(0, .ref (g.2.2.1 12)), (1, .int a0)] := hl
  obtain ⟨H, hH⟩ : ∃ H : Heap, H = s.heap := ⟨_, rfl⟩
  obtain ⟨locs, hlocs⟩ : ∃ q : List Loc, q = [] := ⟨_, rfl⟩
  have hW : WB g A s.heap H locs (J, L, I, P, E, N) (sgX g ++ dy) := by rw [hH, hlocs]; exact hW
  refine start_ hH hlocs ?_
  refine lv_iload_n hx hb dX11_advert_0 rfl (lv_at hl 1 rfl) ?_
  refine lv_if_ge (tgt := 11) hx hb dX11_advert_1 (by decide) (fun c1 => ?_) (fun c1 => ?_)
  · have c1 : 0 ≤ a0.toInt := tle kp0 rfl c1
    refine lv_iload_n hx hb dX11_advert_11 rfl (lv_at hl 1 rfl) ?_
    refine lv_bipush (v := 9) hx hb dX11_advert_12 (by decide) ?_
    refine lv_icmp_gt (tgt := 29) hx hb dX11_advert_14 (by decide) (fun c2 => ?_) (fun c2 => ?_)
    · have c2 : 9 < a0.toInt := tlt kp9 rfl c2
      refine lv_aload_n hx hb dX11_advert_29 rfl (lv_at hl 0 rfl) ?_
      refine lv_bipush (v := (-6)) hx hb dX11_advert_30 (by decide) ?_
      refine ci_ C hW (runV (x := (g.2.2.1 12)) (As := [.int (-6)]) (rest := []) (T := ((J, L, I, P, E, N), sgX g ++ dy)) C hW (c_X11_refuse l g J L I P E N dy H.size (-6) hwf) mi_X11_refuse tw_411 (recv_ (T := ((J, L, I, P, E, N), sgX g ++ dy)) C hW (mx_ rfl) rfl rfl) ⟨rfl, rfl, Nat.le_of_ble_eq_true rfl, Nat.le_of_ble_eq_true rfl⟩ rfl hl.1 rfl (Nat.le_of_ble_eq_true rfl) dX11_advert_32 ⟨Nat.le_of_ble_eq_true rfl, Nat.le_of_ble_eq_true rfl⟩) (fun r3 u3 H locs hp3 hW => ?_)
      have hc3 : ((r3 = (-6))) := hp3
      clear hp3
      have hr3 : r3.toInt = (-6) := by rw [hc3]; exact kn6
      have hW : WB g A s.heap H locs ((hv J [42] [] u3), L, I, P, E, N) (sgX g ++ dy) := hW
      have hWr : WB g A s.heap H locs ((hv J [40, 42] [(12, 10)] (hv J [42] [] u3)), L, I, P, E, N) (sgX g ++ dy) := by
        rw [← ag_hvE (J := J) (R := [40, 42]) (F := [(12, 10)]) (ag_hv rfl rfl ag_rf)]
        exact hW
      exact end_i C hr hlocks (hv J [42] [] u3) hWr ⟨by first | exact Or.inl ⟨by omega, by omega, show J 12 10 = J 12 10 from by first | rfl | assumption, show J 40 = J 40 from by first | rfl | assumption⟩ | exact Or.inr (Or.inl ⟨by omega, by omega, show J 12 10 = J 12 10 from by first | rfl | assumption, show J 40 = J 40 from by first | rfl | assumption⟩) | exact Or.inr (Or.inr (⟨by omega, by omega, show (J 12 10).toInt = (J 12 10).toInt + 1 from by first | rfl | omega, show J 40 = up2 J 40 (J 12 10).toNatClampNeg a0 40 from by first | rfl | omega⟩)), show 0 ≤ (J 12 10).toInt from by first | omega | assumption⟩ dX11_advert_35
    · have c2 : a0.toInt ≤ 9 := tnlt kp9 rfl c2
      refine lv_aload_n hx hb dX11_advert_17 rfl (lv_at hl 0 rfl) ?_
      refine rg_12_10 C hW (mx_ rfl) tw_374 dX11_advert_18 ?_
      refine lv_aload_n hx hb dX11_advert_21 rfl (lv_at hl 0 rfl) ?_
      refine rg_12_7 C hW (mx_ rfl) tw_371 dX11_advert_22 ?_
      refine rl_40 C hW (mx_ rfl) dX11_advert_25 ?_
      refine lv_icmp_lt (tgt := 36) hx hb dX11_advert_26 (by decide) (fun c4 => ?_) (fun c4 => ?_)
      · have c4 : (J 12 10).toInt < 200 := tlt rfl kp200 c4
        refine lv_aload_n hx hb dX11_advert_36 rfl (lv_at hl 0 rfl) ?_
        refine rg_12_7 C hW (mx_ rfl) tw_371 dX11_advert_37 ?_
        refine lv_aload_n hx hb dX11_advert_40 rfl (lv_at hl 0 rfl) ?_
        refine rg_12_10 C hW (mx_ rfl) tw_374 dX11_advert_41 ?_
        refine lv_iload_n hx hb dX11_advert_44 rfl (lv_at hl 1 rfl) ?_
        have hin : vp_in (J 12 10) 200 := tin rfl (by omega)
        refine rs_40 C hW (mx_ rfl) hin dX11_advert_45 (fun H locs hW => ?_)
        refine lv_aload_n hx hb dX11_advert_46 rfl (lv_at hl 0 rfl) ?_
        refine rg_12_10 C hW (mx_ rfl) tw_374 dX11_advert_47 ?_
        refine lv_as (J 12 10) rfl ?_
        refine lv_iconst (v := 5) hx hb dX11_advert_50 (by decide) ?_
        refine lv_idiv hx hb dX11_advert_51 (by decide) ?_
        refine lv_topi (fun x5 (e5 : x5 = (J 12 10) / 5) => ?_)
        have t5 : x5.toInt = ((J 12 10).toInt).tdiv 5 := tdiv e5 rfl kp5 (by decide)
        try rw [tdp (a := (J 12 10).toInt) (by omega)] at t5
        refine lv_istore_n (lv' := [(2, .int x5), (0, .ref (g.2.2.1 12)), (1, .int a0)]) hx hb dX11_advert_52 rfl hl (by decide) rfl (fun ls hl => ?_)
        refine lv_aload_n hx hb dX11_advert_53 rfl (lv_at hl 1 rfl) ?_
        refine lv_dup hx hb dX11_advert_54 rfl ?_
        refine rg_12_10 C hW (mx_ rfl) tw_374 dX11_advert_55 ?_
        refine lv_as (J 12 10) rfl ?_
        refine lv_iconst (v := 1) hx hb dX11_advert_58 (by decide) ?_
        refine lv_iadd hx hb dX11_advert_59 ?_
        refine lv_topi (fun x6 (e6 : x6 = (J 12 10) + 1) => ?_)
        try have t6 : x6.toInt = (J 12 10).toInt + 1 := tadd e6 rfl kp1 (by omega)
        refine rp_12_10 C hW (mx_ rfl) tw_374 dX11_advert_60 (fun H locs hW => ?_)
        refine lv_iload_n hx hb dX11_advert_63 rfl (lv_at hl 0 rfl) ?_
        have hWr : WB g A s.heap H locs ((hv J [40, 42] [(12, 10)] (up2 (up2 J 40 ((J 12 10).toNatClampNeg) a0) 12 10 x6)), L, I, P, E, N) (sgX g ++ dy) := by
          rw [← ag_hvE (J := J) (R := [40, 42]) (F := [(12, 10)]) (ag_up (Or.inr rfl) (ag_up (Or.inl rfl) ag_rf))]
          exact hW
        exact end_i C hr hlocks (up2 (up2 J 40 ((J 12 10).toNatClampNeg) a0) 12 10 x6) hWr ⟨by first | exact Or.inl ⟨by omega, by omega, show x6 = J 12 10 from by first | rfl | assumption, show (up2 J 40 ((J 12 10).toNatClampNeg) a0) 40 = J 40 from by first | rfl | assumption⟩ | exact Or.inr (Or.inl ⟨by omega, by omega, show x6 = J 12 10 from by first | rfl | assumption, show (up2 J 40 ((J 12 10).toNatClampNeg) a0) 40 = J 40 from by first | rfl | assumption⟩) | exact Or.inr (Or.inr (⟨by omega, by omega, show (x6).toInt = (J 12 10).toInt + 1 from by first | rfl | omega, show (up2 J 40 ((J 12 10).toNatClampNeg) a0) 40 = up2 J 40 (J 12 10).toNatClampNeg a0 40 from by first | rfl | omega⟩)), show 0 ≤ (x6).toInt from by first | omega | assumption⟩ dX11_advert_64
      · have c4 : 200 ≤ (J 12 10).toInt := tnlt rfl kp200 c4
        refine lv_aload_n hx hb dX11_advert_29 rfl (lv_at hl 0 rfl) ?_
        refine lv_bipush (v := (-6)) hx hb dX11_advert_30 (by decide) ?_
        refine ci_ C hW (runV (x := (g.2.2.1 12)) (As := [.int (-6)]) (rest := []) (T := ((J, L, I, P, E, N), sgX g ++ dy)) C hW (c_X11_refuse l g J L I P E N dy H.size (-6) hwf) mi_X11_refuse tw_411 (recv_ (T := ((J, L, I, P, E, N), sgX g ++ dy)) C hW (mx_ rfl) rfl rfl) ⟨rfl, rfl, Nat.le_of_ble_eq_true rfl, Nat.le_of_ble_eq_true rfl⟩ rfl hl.1 rfl (Nat.le_of_ble_eq_true rfl) dX11_advert_32 ⟨Nat.le_of_ble_eq_true rfl, Nat.le_of_ble_eq_true rfl⟩) (fun r7 u7 H locs hp7 hW => ?_)
        have hc7 : ((r7 = (-6))) := hp7
        clear hp7
        have hr7 : r7.toInt = (-6) := by rw [hc7]; exact kn6
        have hW : WB g A s.heap H locs ((hv J [42] [] u7), L, I, P, E, N) (sgX g ++ dy) := hW
        have hWr : WB g A s.heap H locs ((hv J [40, 42] [(12, 10)] (hv J [42] [] u7)), L, I, P, E, N) (sgX g ++ dy) := by
          rw [← ag_hvE (J := J) (R := [40, 42]) (F := [(12, 10)]) (ag_hv rfl rfl ag_rf)]
          exact hW
        exact end_i C hr hlocks (hv J [42] [] u7) hWr ⟨by first | exact Or.inl ⟨by omega, by omega, show J 12 10 = J 12 10 from by first | rfl | assumption, show J 40 = J 40 from by first | rfl | assumption⟩ | exact Or.inr (Or.inl ⟨by omega, by omega, show J 12 10 = J 12 10 from by first | rfl | assumption, show J 40 = J 40 from by first | rfl | assumption⟩) | exact Or.inr (Or.inr (⟨by omega, by omega, show (J 12 10).toInt = (J 12 10).toInt + 1 from by first | rfl | omega, show J 40 = up2 J 40 (J 12 10).toNatClampNeg a0 40 from by first | rfl | omega⟩)), show 0 ≤ (J 12 10).toInt from by first | omega | assumption⟩ dX11_advert_35
  · have c1 : a0.toInt < 0 := tnle kp0 rfl c1
    refine lv_aload_n hx hb dX11_advert_4 rfl (lv_at hl 0 rfl) ?_
    refine lv_bipush (v := (-4)) hx hb dX11_advert_5 (by decide) ?_
    refine ci_ C hW (runV (x := (g.2.2.1 12)) (As := [.int (-4)]) (rest := []) (T := ((J, L, I, P, E, N), sgX g ++ dy)) C hW (c_X11_refuse l g J L I P E N dy H.size (-4) hwf) mi_X11_refuse tw_411 (recv_ (T := ((J, L, I, P, E, N), sgX g ++ dy)) C hW (mx_ rfl) rfl rfl) ⟨rfl, rfl, Nat.le_of_ble_eq_true rfl, Nat.le_of_ble_eq_true rfl⟩ rfl hl.1 rfl (Nat.le_of_ble_eq_true rfl) dX11_advert_7 ⟨Nat.le_of_ble_eq_true rfl, Nat.le_of_ble_eq_true rfl⟩) (fun r8 u8 H locs hp8 hW => ?_)
    have hc8 : ((r8 = (-4))) := hp8
    clear hp8
    have hr8 : r8.toInt = (-4) := by rw [hc8]; exact kn4
    have hW : WB g A s.heap H locs ((hv J [42] [] u8), L, I, P, E, N) (sgX g ++ dy) := hW
    have hWr : WB g A s.heap H locs ((hv J [40, 42] [(12, 10)] (hv J [42] [] u8)), L, I, P, E, N) (sgX g ++ dy) := by
      rw [← ag_hvE (J := J) (R := [40, 42]) (F := [(12, 10)]) (ag_hv rfl rfl ag_rf)]
      exact hW
    exact end_i C hr hlocks (hv J [42] [] u8) hWr ⟨by first | exact Or.inl ⟨by omega, by omega, show J 12 10 = J 12 10 from by first | rfl | assumption, show J 40 = J 40 from by first | rfl | assumption⟩ | exact Or.inr (Or.inl ⟨by omega, by omega, show J 12 10 = J 12 10 from by first | rfl | assumption, show J 40 = J 40 from by first | rfl | assumption⟩) | exact Or.inr (Or.inr (⟨by omega, by omega, show (J 12 10).toInt = (J 12 10).toInt + 1 from by first | rfl | omega, show J 40 = up2 J 40 (J 12 10).toNatClampNeg a0 40 from by first | rfl | omega⟩)), show 0 ≤ (J 12 10).toInt from by first | omega | assumption⟩ dX11_advert_10

set_option maxHeartbeats 4000000 in
set_option maxRecDepth 100000 in
theorem c_X12_sold_e (l : Launch) (g : gG) (J : Nat → Nat → Int32) (L : Nat → Nat → Int64) (I : Nat → Nat → Nat → Int32) (P : Nat → Nat → Nat → Option Nat) (E : Nat → Option Nat) (N : Nat → Nat) (sz : Nat) (a0 : Int32) (a1 : Int32) (hwm : WM J) : Met l yX12_sold (WS yX12_sold cX12_sold 4 (some .int)) (RM (3) 0 0) (PC g [.ref (g.2.2.1 13), .int a0, .int a1] ((J, L, I, P, E, N), sgM g) sz) (va_Qi (fun (r : Int32) (u : (Nat → Nat → Int32)) => ((r.toInt = (-4) ∧ (a1.toInt < 0)) ∨ (r.toInt = (-6) ∧ (5 ≤ a1.toInt)) ∨ (r.toInt = (-9) ∧ (0 ≤ a1.toInt ∧ a1.toInt ≤ 4 ∧ (a0.toInt < 0 ∨ 40 ≤ a0.toInt ∨ (J 13 43).toInt ≤ 5 * a0.toInt + a1.toInt))) ∨ (r = r ∧ (0 ≤ a1.toInt ∧ a1.toInt ≤ 4 ∧ 0 ≤ a0.toInt ∧ a0.toInt ≤ 39 ∧ 5 * a0.toInt + a1.toInt < (J 13 43).toInt))) ∧ (0 ≤ a1.toInt ∧ a1.toInt ≤ 4 ∧ 0 ≤ a0.toInt ∧ a0.toInt ≤ 39 ∧ 5 * a0.toInt + a1.toInt < (J 13 43).toInt → r = J 129 (5 * a0.toInt + a1.toInt).toNat)) (fun u t => at_ g (FR g ((J, L, I, P, E, N), sgM g) sz) ((hv J [100] [] u, L, I, P, E, N), sgM g) t) (FR g ((J, L, I, P, E, N), sgM g) sz)) 0 0 (FR g ((J, L, I, P, E, N), sgM g) sz) := by
  refine ent (by decide +kernel) (Nat.le_of_ble_eq_true rfl) ?_
  intro p e s m below meth c ls hsz C hW hr hlocks hname hl
  generalize FR g ((J, L, I, P, E, N), sgM g) sz = A at C hW ⊢
  have hx := C.1.1
  have hb := C.1.2.1
  have hts := C.1.2.2.2.2
  have hW : WB g A s.heap s.heap [] (J, L, I, P, E, N) (sgM g) := hW
  have hl : lv_has ls 4 [(0, .ref (g.2.2.1 13)), (1, .int a0), (2, .int a1)] := hl
  obtain ⟨H, hH⟩ : ∃ H : Heap, H = s.heap := ⟨_, rfl⟩
  obtain ⟨locs, hlocs⟩ : ∃ q : List Loc, q = [] := ⟨_, rfl⟩
  have hW : WB g A s.heap H locs (J, L, I, P, E, N) (sgM g) := by rw [hH, hlocs]; exact hW
  obtain ⟨⟨hnd1, hnd2, hon, hhm1, hhm2, hhN, hcu1, hcu2, hco1, hco2, hcN⟩, ⟨hrd1, hrd2⟩, ⟨hnw1, hnw2, hns1, hns2, hof⟩, ⟨htm1, htm2, hts_⟩, ⟨had1, had2, hrw1, hrw2, htp1, htp2⟩⟩ := id hwm
  refine start_ hH hlocs ?_
  refine lv_iload_n hx hb dX12_sold_0 rfl (lv_at hl 2 rfl) ?_
  refine lv_iconst (v := 0) hx hb dX12_sold_1 (by decide) ?_
  refine lv_iconst (v := 4) hx hb dX12_sold_2 (by decide) ?_
  refine ci_ C hW (runS (As := [.int a1, .int 0, .int 4]) (rest := []) (T := ((J, L, I, P, E, N), sgM g)) C hW (c_X12_within l g J L I P E N H.size a1 0 4 ) mi_X12_within tw_1258 ⟨rfl, rfl, Nat.le_of_ble_eq_true rfl, Nat.le_of_ble_eq_true rfl⟩ rfl hl.1 rfl (Nat.le_of_ble_eq_true rfl) dX12_sold_3 ⟨Nat.le_of_ble_eq_true rfl, Nat.le_of_ble_eq_true rfl⟩) (fun r1 u1 H locs hp1 hW => ?_)
  have hc1 : ((r1.toInt = (-4) ∧ (a1.toInt < 0)) ∨ (r1.toInt = (-6) ∧ (0 ≤ a1.toInt ∧ 4 < a1.toInt)) ∨ (r1.toInt = 0 ∧ (0 ≤ a1.toInt ∧ a1.toInt ≤ 4))) := hp1
  clear hp1
  have hW : WB g A s.heap H locs (J, L, I, P, E, N) (sgM g) := hW
  refine lv_istore_n (lv' := [(3, .int r1), (0, .ref (g.2.2.1 13)), (1, .int a0), (2, .int a1)]) hx hb dX12_sold_6 rfl hl (by decide) rfl (fun ls hl => ?_)
  refine lv_iload_n hx hb dX12_sold_7 rfl (lv_at hl 0 rfl) ?_
  refine lv_if_eq (tgt := 17) hx hb dX12_sold_8 (by decide) (fun c2 => ?_) (fun c2 => ?_)
  · have c2 : r1.toInt = 0 := teq rfl kp0 c2
    refine lv_iload_n hx hb dX12_sold_17 rfl (lv_at hl 2 rfl) ?_
    refine lv_if_lt (tgt := 39) hx hb dX12_sold_18 (by decide) (fun c3 => ?_) (fun c3 => ?_)
    · have c3 : a0.toInt < 0 := tlt rfl kp0 c3
      refine lv_bipush (v := (-9)) hx hb dX12_sold_39 (by decide) ?_
      refine lv_goto (tgt := 54) hx hb dX12_sold_41 (by decide) ?_
      have hWr : WB g A s.heap H locs (hv J [100] [] J, L, I, P, E, N) (sgM g) := by
        rw [← ag_hvE (J := J) (R := [100]) (F := []) ag_rf]
        exact hW
      exact end_i C hr hlocks J hWr ⟨by first | exact Or.inr (Or.inr (Or.inl ⟨by decide, by omega⟩)) | exact Or.inr (Or.inr (Or.inr (⟨by first | rfl | assumption, by omega⟩))), show 0 ≤ a1.toInt ∧ a1.toInt ≤ 4 ∧ 0 ≤ a0.toInt ∧ a0.toInt ≤ 39 ∧ 5 * a0.toInt + a1.toInt < (J 13 43).toInt → (-9) = J 129 (5 * a0.toInt + a1.toInt).toNat from by intro h9; exfalso; omega⟩ dX12_sold_54
    · have c3 : 0 ≤ a0.toInt := tnlt rfl kp0 c3
      refine lv_iload_n hx hb dX12_sold_21 rfl (lv_at hl 2 rfl) ?_
      refine lv_bipush (v := 40) hx hb dX12_sold_22 (by decide) ?_
      refine lv_icmp_ge (tgt := 39) hx hb dX12_sold_24 (by decide) (fun c4 => ?_) (fun c4 => ?_)
      · have c4 : 40 ≤ a0.toInt := tle kp40 rfl c4
        refine lv_bipush (v := (-9)) hx hb dX12_sold_39 (by decide) ?_
        refine lv_goto (tgt := 54) hx hb dX12_sold_41 (by decide) ?_
        have hWr : WB g A s.heap H locs (hv J [100] [] J, L, I, P, E, N) (sgM g) := by
          rw [← ag_hvE (J := J) (R := [100]) (F := []) ag_rf]
          exact hW
        exact end_i C hr hlocks J hWr ⟨by first | exact Or.inr (Or.inr (Or.inl ⟨by decide, by omega⟩)) | exact Or.inr (Or.inr (Or.inr (⟨by first | rfl | assumption, by omega⟩))), show 0 ≤ a1.toInt ∧ a1.toInt ≤ 4 ∧ 0 ≤ a0.toInt ∧ a0.toInt ≤ 39 ∧ 5 * a0.toInt + a1.toInt < (J 13 43).toInt → (-9) = J 129 (5 * a0.toInt + a1.toInt).toNat from by intro h9; exfalso; omega⟩ dX12_sold_54
      · have c4 : a0.toInt < 40 := tnle kp40 rfl c4
        refine lv_iconst (v := 5) hx hb dX12_sold_27 (by decide) ?_
        refine lv_iload_n hx hb dX12_sold_28 rfl (lv_at hl 2 rfl) ?_
        refine lv_imul hx hb dX12_sold_29 ?_
        refine lv_topi (fun x5 (e5 : x5 = 5 * a0) => ?_)
        try have t5 : x5.toInt = 5 * a0.toInt := tmul e5 kp5 rfl (by omega)
        refine lv_iload_n hx hb dX12_sold_30 rfl (lv_at hl 3 rfl) ?_
        refine lv_iadd hx hb dX12_sold_31 ?_
        refine lv_topi (fun x6 (e6 : x6 = x5 + a1) => ?_)
        try have t6 : x6.toInt = x5.toInt + a1.toInt := tadd e6 rfl rfl (by omega)
        refine lv_aload_n hx hb dX12_sold_32 rfl (lv_at hl 1 rfl) ?_
        refine rg_13_43 C hW (mm_ rfl) tw_1066 dX12_sold_33 ?_
        refine lv_icmp_lt (tgt := 44) hx hb dX12_sold_36 (by decide) (fun c7 => ?_) (fun c7 => ?_)
        · have c7 : x6.toInt < (J 13 43).toInt := tlt rfl rfl c7
          refine lv_aload_n hx hb dX12_sold_44 rfl (lv_at hl 1 rfl) ?_
          refine rg_13_29 C hW (mm_ rfl) tw_1052 dX12_sold_45 ?_
          refine lv_iconst (v := 5) hx hb dX12_sold_48 (by decide) ?_
          refine lv_iload_n hx hb dX12_sold_49 rfl (lv_at hl 2 rfl) ?_
          refine lv_imul hx hb dX12_sold_50 ?_
          refine lv_topi (fun x8 (e8 : x8 = 5 * a0) => ?_)
          try have t8 : x8.toInt = 5 * a0.toInt := tmul e8 kp5 rfl (by omega)
          refine lv_iload_n hx hb dX12_sold_51 rfl (lv_at hl 3 rfl) ?_
          refine lv_iadd hx hb dX12_sold_52 ?_
          refine lv_topi (fun x9 (e9 : x9 = x8 + a1) => ?_)
          try have t9 : x9.toInt = x8.toInt + a1.toInt := tadd e9 rfl rfl (by omega)
          have hin : vp_in x9 200 := tin rfl (by omega)
          refine ra_129 C hW (mm_ rfl) hin dX12_sold_53 ?_
          refine lv_topi (fun x10 (e10 : x10 = J 129 x9.toNatClampNeg) => ?_)
          have hWr : WB g A s.heap H locs (hv J [100] [] J, L, I, P, E, N) (sgM g) := by
            rw [← ag_hvE (J := J) (R := [100]) (F := []) ag_rf]
            exact hW
          exact end_i C hr hlocks J hWr ⟨by first | exact Or.inl ⟨by omega, by omega⟩ | exact Or.inr (Or.inl ⟨by omega, by omega⟩) | exact Or.inr (Or.inr (Or.inl ⟨by omega, by omega⟩)) | exact Or.inr (Or.inr (Or.inr (⟨by first | rfl | assumption, by omega⟩))) | (rcases hc1 with qhc1 | qhc1 | qhc1 <;> first | exact Or.inl ⟨by omega, by omega⟩ | exact Or.inr (Or.inl ⟨by omega, by omega⟩) | exact Or.inr (Or.inr (Or.inl ⟨by omega, by omega⟩)) | exact Or.inr (Or.inr (Or.inr (⟨by first | rfl | assumption, by omega⟩))) | (exfalso; omega)), show 0 ≤ a1.toInt ∧ a1.toInt ≤ 4 ∧ 0 ≤ a0.toInt ∧ a0.toInt ≤ 39 ∧ 5 * a0.toInt + a1.toInt < (J 13 43).toInt → x10 = J 129 (5 * a0.toInt + a1.toInt).toNat from by intro h9; rw [e10]; congr 1; have h8 := tcl x9; omega⟩ dX12_sold_54
        · have c7 : (J 13 43).toInt ≤ x6.toInt := tnlt rfl rfl c7
          refine lv_bipush (v := (-9)) hx hb dX12_sold_39 (by decide) ?_
          refine lv_goto (tgt := 54) hx hb dX12_sold_41 (by decide) ?_
          have hWr : WB g A s.heap H locs (hv J [100] [] J, L, I, P, E, N) (sgM g) := by
            rw [← ag_hvE (J := J) (R := [100]) (F := []) ag_rf]
            exact hW
          exact end_i C hr hlocks J hWr ⟨by first | exact Or.inr (Or.inr (Or.inl ⟨by decide, by omega⟩)) | exact Or.inr (Or.inr (Or.inr (⟨by first | rfl | assumption, by omega⟩))), show 0 ≤ a1.toInt ∧ a1.toInt ≤ 4 ∧ 0 ≤ a0.toInt ∧ a0.toInt ≤ 39 ∧ 5 * a0.toInt + a1.toInt < (J 13 43).toInt → (-9) = J 129 (5 * a0.toInt + a1.toInt).toNat from by intro h9; exfalso; omega⟩ dX12_sold_54
  · have c2 : ¬ r1.toInt = 0 := tne rfl kp0 c2
    refine lv_aload_n hx hb dX12_sold_11 rfl (lv_at hl 1 rfl) ?_
    refine lv_iload_n hx hb dX12_sold_12 rfl (lv_at hl 0 rfl) ?_
    refine ci_ C hW (runV (x := (g.2.2.1 13)) (As := [.int r1]) (rest := []) (T := ((J, L, I, P, E, N), sgM g)) C hW (c_X12_refuse l g J L I P E N H.size r1 (show -6 ≤ r1.toInt ∧ r1.toInt ≤ -1 from by omega)) mi_X12_refuse tw_1239 (recv_ (T := ((J, L, I, P, E, N), sgM g)) C hW (mm_ rfl) rfl rfl) ⟨rfl, rfl, Nat.le_of_ble_eq_true rfl, Nat.le_of_ble_eq_true rfl⟩ rfl hl.1 rfl (Nat.le_of_ble_eq_true rfl) dX12_sold_13 ⟨Nat.le_of_ble_eq_true rfl, Nat.le_of_ble_eq_true rfl⟩) (fun r11 u11 H locs hp11 hW => ?_)
    have hc11 : ((r11 = r1)) := hp11
    clear hp11
    have hr11 : r11.toInt = (r1).toInt := by rw [hc11]
    have hW : WB g A s.heap H locs ((hv J [100] [] u11), L, I, P, E, N) (sgM g) := hW
    have hWr : WB g A s.heap H locs (hv J [100] [] (hv J [100] [] u11), L, I, P, E, N) (sgM g) := by
      rw [← ag_hvE (J := J) (R := [100]) (F := []) (ag_hv rfl rfl ag_rf)]
      exact hW
    exact end_i C hr hlocks (hv J [100] [] u11) hWr ⟨by first | exact Or.inl ⟨by omega, by omega⟩ | exact Or.inr (Or.inl ⟨by omega, by omega⟩) | exact Or.inr (Or.inr (Or.inl ⟨by omega, by omega⟩)) | exact Or.inr (Or.inr (Or.inr (⟨by first | rfl | assumption, by omega⟩))) | (rcases hc1 with qhc1 | qhc1 | qhc1 <;> first | exact Or.inl ⟨by omega, by omega⟩ | exact Or.inr (Or.inl ⟨by omega, by omega⟩) | exact Or.inr (Or.inr (Or.inl ⟨by omega, by omega⟩)) | exact Or.inr (Or.inr (Or.inr (⟨by first | rfl | assumption, by omega⟩))) | (exfalso; omega)), show 0 ≤ a1.toInt ∧ a1.toInt ≤ 4 ∧ 0 ≤ a0.toInt ∧ a0.toInt ≤ 39 ∧ 5 * a0.toInt + a1.toInt < (J 13 43).toInt → r11 = J 129 (5 * a0.toInt + a1.toInt).toNat from by intro h9; exfalso; omega⟩ dX12_sold_16

set_option maxHeartbeats 4000000 in
set_option maxRecDepth 100000 in
theorem c_X12_advert_e (l : Launch) (g : gG) (J : Nat → Nat → Int32) (L : Nat → Nat → Int64) (I : Nat → Nat → Nat → Int32) (P : Nat → Nat → Nat → Option Nat) (E : Nat → Option Nat) (N : Nat → Nat) (sz : Nat) (a0 : Int32) (hwm : WM J) : Met l yX12_advert (WS yX12_advert cX12_advert 3 (some .int)) (RM (3) 0 0) (PC g [.ref (g.2.2.1 13), .int a0] ((J, L, I, P, E, N), sgM g) sz) (va_Qi (fun (r : Int32) (u : (Nat → Nat → Int32)) => WM (hv J [100, 129] [(13, 43)] u) ∧ ((r.toInt = (-4) ∧ (a0.toInt < 0) ∧ u 13 43 = J 13 43 ∧ u 129 = J 129) ∨ (r.toInt = (-6) ∧ (0 ≤ a0.toInt ∧ (9 < a0.toInt ∨ (J 13 43).toInt = 200)) ∧ u 13 43 = J 13 43 ∧ u 129 = J 129) ∨ (r.toInt = (J 13 43).toInt / 5 ∧ (0 ≤ a0.toInt ∧ a0.toInt ≤ 9 ∧ (J 13 43).toInt ≤ 199) ∧ (u 13 43).toInt = (J 13 43).toInt + 1 ∧ u 129 = up2 J 129 (J 13 43).toNatClampNeg a0 129))) (fun u t => at_ g (FR g ((J, L, I, P, E, N), sgM g) sz) ((hv J [100, 129] [(13, 43)] u, L, I, P, E, N), sgM g) t) (FR g ((J, L, I, P, E, N), sgM g) sz)) 0 0 (FR g ((J, L, I, P, E, N), sgM g) sz) := by
  refine ent (by decide +kernel) (Nat.le_of_ble_eq_true rfl) ?_
  intro p e s m below meth c ls hsz C hW hr hlocks hname hl
  generalize FR g ((J, L, I, P, E, N), sgM g) sz = A at C hW ⊢
  have hx := C.1.1
  have hb := C.1.2.1
  have hts := C.1.2.2.2.2
  have hW : WB g A s.heap s.heap [] (J, L, I, P, E, N) (sgM g) := hW
  have hl : lv_has ls 3 [(0, .ref (g.2.2.1 13)), (1, .int a0)] := hl
  obtain ⟨H, hH⟩ : ∃ H : Heap, H = s.heap := ⟨_, rfl⟩
  obtain ⟨locs, hlocs⟩ : ∃ q : List Loc, q = [] := ⟨_, rfl⟩
  have hW : WB g A s.heap H locs (J, L, I, P, E, N) (sgM g) := by rw [hH, hlocs]; exact hW
  obtain ⟨⟨hnd1, hnd2, hon, hhm1, hhm2, hhN, hcu1, hcu2, hco1, hco2, hcN⟩, ⟨hrd1, hrd2⟩, ⟨hnw1, hnw2, hns1, hns2, hof⟩, ⟨htm1, htm2, hts_⟩, ⟨had1, had2, hrw1, hrw2, htp1, htp2⟩⟩ := id hwm
  refine start_ hH hlocs ?_
  refine lv_iload_n hx hb dX12_advert_0 rfl (lv_at hl 1 rfl) ?_
  refine lv_iconst (v := 0) hx hb dX12_advert_1 (by decide) ?_
  refine lv_bipush (v := 9) hx hb dX12_advert_2 (by decide) ?_
  refine ci_ C hW (runS (As := [.int a0, .int 0, .int 9]) (rest := []) (T := ((J, L, I, P, E, N), sgM g)) C hW (c_X12_within l g J L I P E N H.size a0 0 9 ) mi_X12_within tw_1258 ⟨rfl, rfl, Nat.le_of_ble_eq_true rfl, Nat.le_of_ble_eq_true rfl⟩ rfl hl.1 rfl (Nat.le_of_ble_eq_true rfl) dX12_advert_4 ⟨Nat.le_of_ble_eq_true rfl, Nat.le_of_ble_eq_true rfl⟩) (fun r1 u1 H locs hp1 hW => ?_)
  have hc1 : ((r1.toInt = (-4) ∧ (a0.toInt < 0)) ∨ (r1.toInt = (-6) ∧ (0 ≤ a0.toInt ∧ 9 < a0.toInt)) ∨ (r1.toInt = 0 ∧ (0 ≤ a0.toInt ∧ a0.toInt ≤ 9))) := hp1
  clear hp1
  have hW : WB g A s.heap H locs (J, L, I, P, E, N) (sgM g) := hW
  refine lv_istore_n (lv' := [(2, .int r1), (0, .ref (g.2.2.1 13)), (1, .int a0)]) hx hb dX12_advert_7 rfl hl (by decide) rfl (fun ls hl => ?_)
  refine lv_iload_n hx hb dX12_advert_8 rfl (lv_at hl 0 rfl) ?_
  refine lv_if_ne (tgt := 25) hx hb dX12_advert_9 (by decide) (fun c2 => ?_) (fun c2 => ?_)
  · have c2 : ¬ r1.toInt = 0 := tne rfl kp0 c2
    refine lv_iload_n hx hb dX12_advert_25 rfl (lv_at hl 0 rfl) ?_
    refine lv_if_eq (tgt := 35) hx hb dX12_advert_26 (by decide) (fun c3 => ?_) (fun c3 => ?_)
    · have c3 : r1.toInt = 0 := teq rfl kp0 c3
      exfalso; omega
    · have c3 : ¬ r1.toInt = 0 := tne rfl kp0 c3
      refine lv_aload_n hx hb dX12_advert_29 rfl (lv_at hl 1 rfl) ?_
      refine lv_iload_n hx hb dX12_advert_30 rfl (lv_at hl 0 rfl) ?_
      refine ci_ C hW (runV (x := (g.2.2.1 13)) (As := [.int r1]) (rest := []) (T := ((J, L, I, P, E, N), sgM g)) C hW (c_X12_refuse l g J L I P E N H.size r1 (show -6 ≤ r1.toInt ∧ r1.toInt ≤ -1 from by omega)) mi_X12_refuse tw_1239 (recv_ (T := ((J, L, I, P, E, N), sgM g)) C hW (mm_ rfl) rfl rfl) ⟨rfl, rfl, Nat.le_of_ble_eq_true rfl, Nat.le_of_ble_eq_true rfl⟩ rfl hl.1 rfl (Nat.le_of_ble_eq_true rfl) dX12_advert_31 ⟨Nat.le_of_ble_eq_true rfl, Nat.le_of_ble_eq_true rfl⟩) (fun r4 u4 H locs hp4 hW => ?_)
      have hc4 : ((r4 = r1)) := hp4
      clear hp4
      have hr4 : r4.toInt = (r1).toInt := by rw [hc4]
      have hW : WB g A s.heap H locs ((hv J [100] [] u4), L, I, P, E, N) (sgM g) := hW
      have hWr : WB g A s.heap H locs (hv J [100, 129] [(13, 43)] (hv J [100] [] u4), L, I, P, E, N) (sgM g) := by
        rw [← ag_hvE (J := J) (R := [100, 129]) (F := [(13, 43)]) (ag_hv rfl rfl ag_rf)]
        exact hW
      have hwmr : WM (hv J [100] [] u4) := by first | exact hwm | exact wm_advert hwm (by omega)
      have hwmr : WM (hv J [100, 129] [(13, 43)] (hv J [100] [] u4)) := by
        rw [← ag_hvE (J := J) (R := [100, 129]) (F := [(13, 43)]) (ag_hv rfl rfl ag_rf)]; exact hwmr
      exact end_i C hr hlocks (hv J [100] [] u4) hWr ⟨hwmr, by first | exact Or.inl ⟨by omega, by omega, show J 13 43 = J 13 43 from by first | rfl | assumption, show J 129 = J 129 from by first | rfl | assumption⟩ | exact Or.inr (Or.inl ⟨by omega, by omega, show J 13 43 = J 13 43 from by first | rfl | assumption, show J 129 = J 129 from by first | rfl | assumption⟩) | exact Or.inr (Or.inr (⟨by omega, by omega, show (J 13 43).toInt = (J 13 43).toInt + 1 from by first | rfl | omega, show J 129 = up2 J 129 (J 13 43).toNatClampNeg a0 129 from by first | rfl | omega⟩)) | (rcases hc1 with qhc1 | qhc1 | qhc1 <;> first | exact Or.inl ⟨by omega, by omega, show J 13 43 = J 13 43 from by first | rfl | assumption, show J 129 = J 129 from by first | rfl | assumption⟩ | exact Or.inr (Or.inl ⟨by omega, by omega, show J 13 43 = J 13 43 from by first | rfl | assumption, show J 129 = J 129 from by first | rfl | assumption⟩) | exact Or.inr (Or.inr (⟨by omega, by omega, show (J 13 43).toInt = (J 13 43).toInt + 1 from by first | rfl | omega, show J 129 = up2 J 129 (J 13 43).toNatClampNeg a0 129 from by first | rfl | omega⟩)) | (exfalso; omega))⟩ dX12_advert_34
  · have c2 : r1.toInt = 0 := teq rfl kp0 c2
    refine lv_aload_n hx hb dX12_advert_12 rfl (lv_at hl 1 rfl) ?_
    refine rg_13_43 C hW (mm_ rfl) tw_1066 dX12_advert_13 ?_
    refine lv_sipush (v := 200) hx hb dX12_advert_16 (by decide) ?_
    refine lv_icmp_ne (tgt := 25) hx hb dX12_advert_19 (by decide) (fun c5 => ?_) (fun c5 => ?_)
    · have c5 : ¬ (J 13 43).toInt = 200 := tne rfl kp200 c5
      refine lv_iload_n hx hb dX12_advert_25 rfl (lv_at hl 0 rfl) ?_
      refine lv_if_eq (tgt := 35) hx hb dX12_advert_26 (by decide) (fun c6 => ?_) (fun c6 => ?_)
      · have c6 : r1.toInt = 0 := teq rfl kp0 c6
        refine lv_aload_n hx hb dX12_advert_35 rfl (lv_at hl 1 rfl) ?_
        refine rg_13_29 C hW (mm_ rfl) tw_1052 dX12_advert_36 ?_
        refine lv_aload_n hx hb dX12_advert_39 rfl (lv_at hl 1 rfl) ?_
        refine rg_13_43 C hW (mm_ rfl) tw_1066 dX12_advert_40 ?_
        refine lv_iload_n hx hb dX12_advert_43 rfl (lv_at hl 2 rfl) ?_
        have hin : vp_in (J 13 43) 200 := tin rfl (by omega)
        refine rs_129 C hW (mm_ rfl) hin dX12_advert_44 (fun H locs hW => ?_)
        refine lv_aload_n hx hb dX12_advert_45 rfl (lv_at hl 1 rfl) ?_
        refine lv_dup hx hb dX12_advert_46 rfl ?_
        refine rg_13_43 C hW (mm_ rfl) tw_1066 dX12_advert_47 ?_
        refine lv_as (J 13 43) rfl ?_
        refine lv_iconst (v := 1) hx hb dX12_advert_50 (by decide) ?_
        refine lv_iadd hx hb dX12_advert_51 ?_
        refine lv_topi (fun x7 (e7 : x7 = (J 13 43) + 1) => ?_)
        try have t7 : x7.toInt = (J 13 43).toInt + 1 := tadd e7 rfl kp1 (by omega)
        refine rp_13_43 C hW (mm_ rfl) tw_1066 dX12_advert_52 (fun H locs hW => ?_)
        refine lv_aload_n hx hb dX12_advert_55 rfl (lv_at hl 1 rfl) ?_
        refine rg_13_43 C hW (mm_ rfl) tw_1066 dX12_advert_56 ?_
        refine lv_as x7 rfl ?_
        refine lv_iconst (v := 1) hx hb dX12_advert_59 (by decide) ?_
        refine lv_isub hx hb dX12_advert_60 ?_
        refine lv_topi (fun x8 (e8 : x8 = x7 - 1) => ?_)
        try have t8 : x8.toInt = x7.toInt - 1 := tsub e8 rfl kp1 (by omega)
        refine lv_iconst (v := 5) hx hb dX12_advert_61 (by decide) ?_
        refine lv_idiv hx hb dX12_advert_62 (by decide) ?_
        refine lv_topi (fun x9 (e9 : x9 = x8 / 5) => ?_)
        have t9 : x9.toInt = x8.toInt.tdiv 5 := tdiv e9 rfl kp5 (by decide)
        try rw [tdp (a := x8.toInt) (by omega)] at t9
        have hWr : WB g A s.heap H locs (hv J [100, 129] [(13, 43)] (up2 (up2 J 129 ((J 13 43).toNatClampNeg) a0) 13 43 x7), L, I, P, E, N) (sgM g) := by
          rw [← ag_hvE (J := J) (R := [100, 129]) (F := [(13, 43)]) (ag_up (Or.inr rfl) (ag_up (Or.inl rfl) ag_rf))]
          exact hW
        have hwmr : WM (up2 (up2 J 129 ((J 13 43).toNatClampNeg) a0) 13 43 x7) := by first | exact hwm | exact wm_advert hwm (by omega)
        have hwmr : WM (hv J [100, 129] [(13, 43)] (up2 (up2 J 129 ((J 13 43).toNatClampNeg) a0) 13 43 x7)) := by
          rw [← ag_hvE (J := J) (R := [100, 129]) (F := [(13, 43)]) (ag_up (Or.inr rfl) (ag_up (Or.inl rfl) ag_rf))]; exact hwmr
        exact end_i C hr hlocks (up2 (up2 J 129 ((J 13 43).toNatClampNeg) a0) 13 43 x7) hWr ⟨hwmr, by first | exact Or.inl ⟨by omega, by omega, show x7 = J 13 43 from by first | rfl | assumption, show (up2 J 129 ((J 13 43).toNatClampNeg) a0) 129 = J 129 from by first | rfl | assumption⟩ | exact Or.inr (Or.inl ⟨by omega, by omega, show x7 = J 13 43 from by first | rfl | assumption, show (up2 J 129 ((J 13 43).toNatClampNeg) a0) 129 = J 129 from by first | rfl | assumption⟩) | exact Or.inr (Or.inr (⟨by omega, by omega, show (x7).toInt = (J 13 43).toInt + 1 from by first | rfl | omega, show (up2 J 129 ((J 13 43).toNatClampNeg) a0) 129 = up2 J 129 (J 13 43).toNatClampNeg a0 129 from by first | rfl | omega⟩)) | (rcases hc1 with qhc1 | qhc1 | qhc1 <;> first | exact Or.inl ⟨by omega, by omega, show x7 = J 13 43 from by first | rfl | assumption, show (up2 J 129 ((J 13 43).toNatClampNeg) a0) 129 = J 129 from by first | rfl | assumption⟩ | exact Or.inr (Or.inl ⟨by omega, by omega, show x7 = J 13 43 from by first | rfl | assumption, show (up2 J 129 ((J 13 43).toNatClampNeg) a0) 129 = J 129 from by first | rfl | assumption⟩) | exact Or.inr (Or.inr (⟨by omega, by omega, show (x7).toInt = (J 13 43).toInt + 1 from by first | rfl | omega, show (up2 J 129 ((J 13 43).toNatClampNeg) a0) 129 = up2 J 129 (J 13 43).toNatClampNeg a0 129 from by first | rfl | omega⟩)) | (exfalso; omega))⟩ dX12_advert_63
      · have c6 : ¬ r1.toInt = 0 := tne rfl kp0 c6
        exfalso; omega
    · have c5 : (J 13 43).toInt = 200 := teq rfl kp200 c5
      refine lv_bipush (v := (-6)) hx hb dX12_advert_22 (by decide) ?_
      refine lv_istore_n (lv' := [(2, .int (-6)), (0, .ref (g.2.2.1 13)), (1, .int a0)]) hx hb dX12_advert_24 rfl hl (by decide) rfl (fun ls hl => ?_)
      refine lv_iload_n hx hb dX12_advert_25 rfl (lv_at hl 0 rfl) ?_
      refine lv_if_eq (tgt := 35) hx hb dX12_advert_26 (by decide) (fun c10 => ?_) (fun c10 => ?_)
      · exact absurd c10 (by decide)
      · skip
        refine lv_aload_n hx hb dX12_advert_29 rfl (lv_at hl 1 rfl) ?_
        refine lv_iload_n hx hb dX12_advert_30 rfl (lv_at hl 0 rfl) ?_
        refine ci_ C hW (runV (x := (g.2.2.1 13)) (As := [.int (-6)]) (rest := []) (T := ((J, L, I, P, E, N), sgM g)) C hW (c_X12_refuse l g J L I P E N H.size (-6) (show -6 ≤ (-6 : Int32).toInt ∧ (-6 : Int32).toInt ≤ -1 from by (try simp only [kn6]); omega)) mi_X12_refuse tw_1239 (recv_ (T := ((J, L, I, P, E, N), sgM g)) C hW (mm_ rfl) rfl rfl) ⟨rfl, rfl, Nat.le_of_ble_eq_true rfl, Nat.le_of_ble_eq_true rfl⟩ rfl hl.1 rfl (Nat.le_of_ble_eq_true rfl) dX12_advert_31 ⟨Nat.le_of_ble_eq_true rfl, Nat.le_of_ble_eq_true rfl⟩) (fun r11 u11 H locs hp11 hW => ?_)
        have hc11 : ((r11 = (-6))) := hp11
        clear hp11
        have hr11 : r11.toInt = (-6) := by rw [hc11]; exact kn6
        have hW : WB g A s.heap H locs ((hv J [100] [] u11), L, I, P, E, N) (sgM g) := hW
        have hWr : WB g A s.heap H locs (hv J [100, 129] [(13, 43)] (hv J [100] [] u11), L, I, P, E, N) (sgM g) := by
          rw [← ag_hvE (J := J) (R := [100, 129]) (F := [(13, 43)]) (ag_hv rfl rfl ag_rf)]
          exact hW
        have hwmr : WM (hv J [100] [] u11) := by first | exact hwm | exact wm_advert hwm (by omega)
        have hwmr : WM (hv J [100, 129] [(13, 43)] (hv J [100] [] u11)) := by
          rw [← ag_hvE (J := J) (R := [100, 129]) (F := [(13, 43)]) (ag_hv rfl rfl ag_rf)]; exact hwmr
        exact end_i C hr hlocks (hv J [100] [] u11) hWr ⟨hwmr, by first | exact Or.inl ⟨by omega, by omega, show J 13 43 = J 13 43 from by first | rfl | assumption, show J 129 = J 129 from by first | rfl | assumption⟩ | exact Or.inr (Or.inl ⟨by omega, by omega, show J 13 43 = J 13 43 from by first | rfl | assumption, show J 129 = J 129 from by first | rfl | assumption⟩) | exact Or.inr (Or.inr (⟨by omega, by omega, show (J 13 43).toInt = (J 13 43).toInt + 1 from by first | rfl | omega, show J 129 = up2 J 129 (J 13 43).toNatClampNeg a0 129 from by first | rfl | omega⟩)) | (rcases hc1 with qhc1 | qhc1 | qhc1 <;> first | exact Or.inl ⟨by omega, by omega, show J 13 43 = J 13 43 from by first | rfl | assumption, show J 129 = J 129 from by first | rfl | assumption⟩ | exact Or.inr (Or.inl ⟨by omega, by omega, show J 13 43 = J 13 43 from by first | rfl | assumption, show J 129 = J 129 from by first | rfl | assumption⟩) | exact Or.inr (Or.inr (⟨by omega, by omega, show (J 13 43).toInt = (J 13 43).toInt + 1 from by first | rfl | omega, show J 129 = up2 J 129 (J 13 43).toNatClampNeg a0 129 from by first | rfl | omega⟩)) | (exfalso; omega))⟩ dX12_advert_34

set_option maxHeartbeats 4000000 in
set_option maxRecDepth 100000 in
theorem c_X12_could_e (l : Launch) (g : gG) (J : Nat → Nat → Int32) (L : Nat → Nat → Int64) (I : Nat → Nat → Nat → Int32) (P : Nat → Nat → Nat → Option Nat) (E : Nat → Option Nat) (N : Nat → Nat) (sz : Nat) (a0 : Int32) (a1 : Int32) (hwm : WM J) : Met l yX12_could (WS yX12_could cX12_could 4 (some .int)) (RM (3) 0 0) (PC g [.ref (g.2.2.1 13), .int a0, .int a1] ((J, L, I, P, E, N), sgM g) sz) (va_Qi (fun (r : Int32) (u : (Nat → Nat → Int32)) => WM (hv J [100, 125, 126] [(13, 41)] u) ∧ ((r.toInt = (-1) ∧ (¬ (0 ≤ a0.toInt ∧ a0.toInt < (J 13 32).toInt)) ∧ u 13 41 = J 13 41 ∧ u 125 = J 125) ∨ (r.toInt = (-3) ∧ (0 ≤ a0.toInt ∧ a0.toInt < (J 13 32).toInt) ∧ u 13 41 = J 13 41 ∧ u 125 = J 125 ∧ (∃ k : Nat, (k : Int) < (J 13 41).toInt ∧ (J 125 k).toInt = a0.toInt)) ∨ (r.toInt = (-4) ∧ (0 ≤ a0.toInt ∧ a0.toInt < (J 13 32).toInt ∧ a1.toInt < 1) ∧ u 13 41 = J 13 41 ∧ u 125 = J 125 ∧ (∀ k : Nat, (k : Int) < (J 13 41).toInt → ¬ (J 125 k).toInt = a0.toInt)) ∨ (r.toInt = (-6) ∧ (0 ≤ a0.toInt ∧ a0.toInt < (J 13 32).toInt ∧ 1 ≤ a1.toInt ∧ (99 < a1.toInt ∨ (J 13 41).toInt = 9)) ∧ u 13 41 = J 13 41 ∧ u 125 = J 125 ∧ (∀ k : Nat, (k : Int) < (J 13 41).toInt → ¬ (J 125 k).toInt = a0.toInt)) ∨ (r.toInt = (J 13 41).toInt ∧ (0 ≤ a0.toInt ∧ a0.toInt < (J 13 32).toInt ∧ 1 ≤ a1.toInt ∧ a1.toInt ≤ 99 ∧ (J 13 41).toInt ≤ 8) ∧ (u 13 41).toInt = (J 13 41).toInt + 1 ∧ u 125 = up2 J 125 (J 13 41).toNatClampNeg a0 125 ∧ (∀ k : Nat, (k : Int) < (J 13 41).toInt → ¬ (J 125 k).toInt = a0.toInt)))) (fun u t => at_ g (FR g ((J, L, I, P, E, N), sgM g) sz) ((hv J [100, 125, 126] [(13, 41)] u, L, I, P, E, N), sgM g) t) (FR g ((J, L, I, P, E, N), sgM g) sz)) 0 0 (FR g ((J, L, I, P, E, N), sgM g) sz) := by
  refine ent (by decide +kernel) (Nat.le_of_ble_eq_true rfl) ?_
  intro p e s m below meth c ls hsz C hW hr hlocks hname hl
  generalize FR g ((J, L, I, P, E, N), sgM g) sz = A at C hW ⊢
  have hx := C.1.1
  have hb := C.1.2.1
  have hts := C.1.2.2.2.2
  have hW : WB g A s.heap s.heap [] (J, L, I, P, E, N) (sgM g) := hW
  have hl : lv_has ls 4 [(0, .ref (g.2.2.1 13)), (1, .int a0), (2, .int a1)] := hl
  obtain ⟨H, hH⟩ : ∃ H : Heap, H = s.heap := ⟨_, rfl⟩
  obtain ⟨locs, hlocs⟩ : ∃ q : List Loc, q = [] := ⟨_, rfl⟩
  have hW : WB g A s.heap H locs (J, L, I, P, E, N) (sgM g) := by rw [hH, hlocs]; exact hW
  obtain ⟨⟨hnd1, hnd2, hon, hhm1, hhm2, hhN, hcu1, hcu2, hco1, hco2, hcN⟩, ⟨hrd1, hrd2⟩, ⟨hnw1, hnw2, hns1, hns2, hof⟩, ⟨htm1, htm2, hts_⟩, ⟨had1, had2, hrw1, hrw2, htp1, htp2⟩⟩ := id hwm
  refine start_ hH hlocs ?_
  refine lv_aload_n hx hb dX12_could_0 rfl (lv_at hl 0 rfl) ?_
  refine lv_iload_n hx hb dX12_could_1 rfl (lv_at hl 1 rfl) ?_
  refine ci_ C hW (runV (x := (g.2.2.1 13)) (As := [.int a0]) (rest := []) (T := ((J, L, I, P, E, N), sgM g)) C hW (c_X12_isNode l g J L I P E N H.size a0 hwm) mi_X12_isNode tw_1251 (recv_ (T := ((J, L, I, P, E, N), sgM g)) C hW (mm_ rfl) rfl rfl) ⟨rfl, rfl, Nat.le_of_ble_eq_true rfl, Nat.le_of_ble_eq_true rfl⟩ rfl hl.1 rfl (Nat.le_of_ble_eq_true rfl) dX12_could_2 ⟨Nat.le_of_ble_eq_true rfl, Nat.le_of_ble_eq_true rfl⟩) (fun r1 u1 H locs hp1 hW => ?_)
  have hc1 : ((r1.toInt = 1 ∧ (0 ≤ a0.toInt ∧ a0.toInt < (J 13 32).toInt)) ∨ (r1.toInt = 0 ∧ (¬ (0 ≤ a0.toInt ∧ a0.toInt < (J 13 32).toInt)))) := hp1
  clear hp1
  have hW : WB g A s.heap H locs (J, L, I, P, E, N) (sgM g) := hW
  refine lv_if_ne (tgt := 14) hx hb dX12_could_5 (by decide) (fun c2 => ?_) (fun c2 => ?_)
  · have c2 : ¬ r1.toInt = 0 := tne rfl kp0 c2
    refine lv_iconst (v := 0) hx hb dX12_could_14 (by decide) ?_
    refine lv_istore_n (lv' := [(3, .int 0), (0, .ref (g.2.2.1 13)), (1, .int a0), (2, .int a1)]) hx hb dX12_could_15 rfl hl (by decide) rfl (fun ls hl => ?_)
    have loop16 : ∀ (n : Nat) (m3 : Int32) (H : Heap) (locs : List Loc) (ls : Array Slot), (9 - m3.toInt).toNat < n → 0 ≤ m3.toInt ∧ m3.toInt ≤ (J 13 41).toInt → (∀ k : Nat, (k : Int) < m3.toInt → ¬ (J 125 k).toInt = a0.toInt) → WB g A s.heap H locs (J, L, I, P, E, N) (sgM g) → lv_has ls 4 [(3, .int m3), (0, .ref (g.2.2.1 13)), (1, .int a0), (2, .int a1)] → W p l e (RM (3) 0 0) s m ([.ref (g.2.2.1 13), .int a0, .int a1] : List Value).toArray below meth c H locs 0 0 (MQ below (va_Qi (fun (r : Int32) (u : (Nat → Nat → Int32)) => WM (hv J [100, 125, 126] [(13, 41)] u) ∧ ((r.toInt = (-1) ∧ (¬ (0 ≤ a0.toInt ∧ a0.toInt < (J 13 32).toInt)) ∧ u 13 41 = J 13 41 ∧ u 125 = J 125) ∨ (r.toInt = (-3) ∧ (0 ≤ a0.toInt ∧ a0.toInt < (J 13 32).toInt) ∧ u 13 41 = J 13 41 ∧ u 125 = J 125 ∧ (∃ k : Nat, (k : Int) < (J 13 41).toInt ∧ (J 125 k).toInt = a0.toInt)) ∨ (r.toInt = (-4) ∧ (0 ≤ a0.toInt ∧ a0.toInt < (J 13 32).toInt ∧ a1.toInt < 1) ∧ u 13 41 = J 13 41 ∧ u 125 = J 125 ∧ (∀ k : Nat, (k : Int) < (J 13 41).toInt → ¬ (J 125 k).toInt = a0.toInt)) ∨ (r.toInt = (-6) ∧ (0 ≤ a0.toInt ∧ a0.toInt < (J 13 32).toInt ∧ 1 ≤ a1.toInt ∧ (99 < a1.toInt ∨ (J 13 41).toInt = 9)) ∧ u 13 41 = J 13 41 ∧ u 125 = J 125 ∧ (∀ k : Nat, (k : Int) < (J 13 41).toInt → ¬ (J 125 k).toInt = a0.toInt)) ∨ (r.toInt = (J 13 41).toInt ∧ (0 ≤ a0.toInt ∧ a0.toInt < (J 13 32).toInt ∧ 1 ≤ a1.toInt ∧ a1.toInt ≤ 99 ∧ (J 13 41).toInt ≤ 8) ∧ (u 13 41).toInt = (J 13 41).toInt + 1 ∧ u 125 = up2 J 125 (J 13 41).toNatClampNeg a0 125 ∧ (∀ k : Nat, (k : Int) < (J 13 41).toInt → ¬ (J 125 k).toInt = a0.toInt)))) (fun u t => at_ g A ((hv J [100, 125, 126] [(13, 41)] u, L, I, P, E, N), sgM g) t) A) ([.ref (g.2.2.1 13), .int a0, .int a1] : List Value).toArray s 0 0 A) (F0 m 16 ls []) := by
      intro n
      induction n with
      | zero => intro m3 H locs ls hmeas; exact absurd hmeas (Nat.not_lt_zero _)
      | succ n ih =>
        intro m3 H locs ls hmeas hi hno hW hl
        refine lv_iload_n hx hb dX12_could_16 rfl (lv_at hl 0 rfl) ?_
        refine lv_aload_n hx hb dX12_could_17 rfl (lv_at hl 1 rfl) ?_
        refine rg_13_41 C hW (mm_ rfl) tw_1064 dX12_could_18 ?_
        refine lv_icmp_ge (tgt := 47) hx hb dX12_could_21 (by decide) (fun c3 => ?_) (fun c3 => ?_)
        · have c3 : (J 13 41).toInt ≤ m3.toInt := tle rfl rfl c3
          refine lv_iload_n hx hb dX12_could_47 rfl (lv_at hl 3 rfl) ?_
          refine lv_iconst (v := 1) hx hb dX12_could_48 (by decide) ?_
          refine lv_bipush (v := 99) hx hb dX12_could_49 (by decide) ?_
          refine ci_ C hW (runS (As := [.int a1, .int 1, .int 99]) (rest := []) (T := ((J, L, I, P, E, N), sgM g)) C hW (c_X12_within l g J L I P E N H.size a1 1 99 ) mi_X12_within tw_1258 ⟨rfl, rfl, Nat.le_of_ble_eq_true rfl, Nat.le_of_ble_eq_true rfl⟩ rfl hl.1 rfl (Nat.le_of_ble_eq_true rfl) dX12_could_51 ⟨Nat.le_of_ble_eq_true rfl, Nat.le_of_ble_eq_true rfl⟩) (fun r4 u4 H locs hp4 hW => ?_)
          have hc4 : ((r4.toInt = (-4) ∧ (a1.toInt < 1)) ∨ (r4.toInt = (-6) ∧ (1 ≤ a1.toInt ∧ 99 < a1.toInt)) ∨ (r4.toInt = 0 ∧ (1 ≤ a1.toInt ∧ a1.toInt ≤ 99))) := hp4
          clear hp4
          have hW : WB g A s.heap H locs (J, L, I, P, E, N) (sgM g) := hW
          refine lv_istore_n (lv' := [(3, .int r4), (0, .ref (g.2.2.1 13)), (1, .int a0), (2, .int a1)]) hx hb dX12_could_54 rfl hl (by decide) rfl (fun ls hl => ?_)
          refine lv_iload_n hx hb dX12_could_55 rfl (lv_at hl 0 rfl) ?_
          refine lv_if_ne (tgt := 71) hx hb dX12_could_56 (by decide) (fun c5 => ?_) (fun c5 => ?_)
          · have c5 : ¬ r4.toInt = 0 := tne rfl kp0 c5
            refine lv_iload_n hx hb dX12_could_71 rfl (lv_at hl 0 rfl) ?_
            refine lv_if_eq (tgt := 81) hx hb dX12_could_72 (by decide) (fun c6 => ?_) (fun c6 => ?_)
            · have c6 : r4.toInt = 0 := teq rfl kp0 c6
              exfalso; omega
            · have c6 : ¬ r4.toInt = 0 := tne rfl kp0 c6
              refine lv_aload_n hx hb dX12_could_75 rfl (lv_at hl 1 rfl) ?_
              refine lv_iload_n hx hb dX12_could_76 rfl (lv_at hl 0 rfl) ?_
              refine ci_ C hW (runV (x := (g.2.2.1 13)) (As := [.int r4]) (rest := []) (T := ((J, L, I, P, E, N), sgM g)) C hW (c_X12_refuse l g J L I P E N H.size r4 (show -6 ≤ r4.toInt ∧ r4.toInt ≤ -1 from by omega)) mi_X12_refuse tw_1239 (recv_ (T := ((J, L, I, P, E, N), sgM g)) C hW (mm_ rfl) rfl rfl) ⟨rfl, rfl, Nat.le_of_ble_eq_true rfl, Nat.le_of_ble_eq_true rfl⟩ rfl hl.1 rfl (Nat.le_of_ble_eq_true rfl) dX12_could_77 ⟨Nat.le_of_ble_eq_true rfl, Nat.le_of_ble_eq_true rfl⟩) (fun r7 u7 H locs hp7 hW => ?_)
              have hc7 : ((r7 = r4)) := hp7
              clear hp7
              have hr7 : r7.toInt = (r4).toInt := by rw [hc7]
              have hW : WB g A s.heap H locs ((hv J [100] [] u7), L, I, P, E, N) (sgM g) := hW
              have hWr : WB g A s.heap H locs (hv J [100, 125, 126] [(13, 41)] (hv J [100] [] u7), L, I, P, E, N) (sgM g) := by
                rw [← ag_hvE (J := J) (R := [100, 125, 126]) (F := [(13, 41)]) (ag_hv rfl rfl ag_rf)]
                exact hW
              have hwmr : WM (hv J [100] [] u7) := by first | exact hwm | exact wm_could hwm (tcl _) (by omega) (by omega) (by omega)
              have hwmr : WM (hv J [100, 125, 126] [(13, 41)] (hv J [100] [] u7)) := by
                rw [← ag_hvE (J := J) (R := [100, 125, 126]) (F := [(13, 41)]) (ag_hv rfl rfl ag_rf)]; exact hwmr
              exact end_i C hr hlocks (hv J [100] [] u7) hWr ⟨hwmr, by first | exact Or.inl ⟨by omega, by omega, show J 13 41 = J 13 41 from by first | rfl | assumption, show J 125 = J 125 from by first | rfl | assumption⟩ | exact Or.inr (Or.inl ⟨by omega, by omega, show J 13 41 = J 13 41 from by first | rfl | exact ⟨m3.toNatClampNeg, by have := tcl m3; omega, by omega⟩, show J 125 = J 125 from by first | rfl | exact ⟨m3.toNatClampNeg, by have := tcl m3; omega, by omega⟩, show (∃ k : Nat, (k : Int) < (J 13 41).toInt ∧ (J 125 k).toInt = a0.toInt) from by first | rfl | exact ⟨m3.toNatClampNeg, by have := tcl m3; omega, by omega⟩⟩) | exact Or.inr (Or.inr (Or.inl ⟨by omega, by omega, show J 13 41 = J 13 41 from by first | rfl | (intro k hk; exact hno k (by omega)), show J 125 = J 125 from by first | rfl | (intro k hk; exact hno k (by omega)), show (∀ k : Nat, (k : Int) < (J 13 41).toInt → ¬ (J 125 k).toInt = a0.toInt) from by first | rfl | (intro k hk; exact hno k (by omega))⟩)) | exact Or.inr (Or.inr (Or.inr (Or.inl ⟨by omega, by omega, show J 13 41 = J 13 41 from by first | rfl | (intro k hk; exact hno k (by omega)), show J 125 = J 125 from by first | rfl | (intro k hk; exact hno k (by omega)), show (∀ k : Nat, (k : Int) < (J 13 41).toInt → ¬ (J 125 k).toInt = a0.toInt) from by first | rfl | (intro k hk; exact hno k (by omega))⟩))) | exact Or.inr (Or.inr (Or.inr (Or.inr (⟨by omega, by omega, show (J 13 41).toInt = (J 13 41).toInt + 1 from by first | rfl | (intro k hk; exact hno k (by omega)) | omega, show J 125 = up2 J 125 (J 13 41).toNatClampNeg a0 125 from by first | rfl | (intro k hk; exact hno k (by omega)) | omega, show (∀ k : Nat, (k : Int) < (J 13 41).toInt → ¬ (J 125 k).toInt = a0.toInt) from by first | rfl | (intro k hk; exact hno k (by omega)) | omega⟩)))) | (rcases hc1 with qhc1 | qhc1 <;> rcases hc4 with qhc4 | qhc4 | qhc4 <;> first | exact Or.inl ⟨by omega, by omega, show J 13 41 = J 13 41 from by first | rfl | assumption, show J 125 = J 125 from by first | rfl | assumption⟩ | exact Or.inr (Or.inl ⟨by omega, by omega, show J 13 41 = J 13 41 from by first | rfl | exact ⟨m3.toNatClampNeg, by have := tcl m3; omega, by omega⟩, show J 125 = J 125 from by first | rfl | exact ⟨m3.toNatClampNeg, by have := tcl m3; omega, by omega⟩, show (∃ k : Nat, (k : Int) < (J 13 41).toInt ∧ (J 125 k).toInt = a0.toInt) from by first | rfl | exact ⟨m3.toNatClampNeg, by have := tcl m3; omega, by omega⟩⟩) | exact Or.inr (Or.inr (Or.inl ⟨by omega, by omega, show J 13 41 = J 13 41 from by first | rfl | (intro k hk; exact hno k (by omega)), show J 125 = J 125 from by first | rfl | (intro k hk; exact hno k (by omega)), show (∀ k : Nat, (k : Int) < (J 13 41).toInt → ¬ (J 125 k).toInt = a0.toInt) from by first | rfl | (intro k hk; exact hno k (by omega))⟩)) | exact Or.inr (Or.inr (Or.inr (Or.inl ⟨by omega, by omega, show J 13 41 = J 13 41 from by first | rfl | (intro k hk; exact hno k (by omega)), show J 125 = J 125 from by first | rfl | (intro k hk; exact hno k (by omega)), show (∀ k : Nat, (k : Int) < (J 13 41).toInt → ¬ (J 125 k).toInt = a0.toInt) from by first | rfl | (intro k hk; exact hno k (by omega))⟩))) | exact Or.inr (Or.inr (Or.inr (Or.inr (⟨by omega, by omega, show (J 13 41).toInt = (J 13 41).toInt + 1 from by first | rfl | (intro k hk; exact hno k (by omega)) | omega, show J 125 = up2 J 125 (J 13 41).toNatClampNeg a0 125 from by first | rfl | (intro k hk; exact hno k (by omega)) | omega, show (∀ k : Nat, (k : Int) < (J 13 41).toInt → ¬ (J 125 k).toInt = a0.toInt) from by first | rfl | (intro k hk; exact hno k (by omega)) | omega⟩)))) | (exfalso; omega))⟩ dX12_could_80
          · have c5 : r4.toInt = 0 := teq rfl kp0 c5
            refine lv_aload_n hx hb dX12_could_59 rfl (lv_at hl 1 rfl) ?_
            refine rg_13_41 C hW (mm_ rfl) tw_1064 dX12_could_60 ?_
            refine lv_bipush (v := 9) hx hb dX12_could_63 (by decide) ?_
            refine lv_icmp_ne (tgt := 71) hx hb dX12_could_65 (by decide) (fun c8 => ?_) (fun c8 => ?_)
            · have c8 : ¬ (J 13 41).toInt = 9 := tne rfl kp9 c8
              refine lv_iload_n hx hb dX12_could_71 rfl (lv_at hl 0 rfl) ?_
              refine lv_if_eq (tgt := 81) hx hb dX12_could_72 (by decide) (fun c9 => ?_) (fun c9 => ?_)
              · have c9 : r4.toInt = 0 := teq rfl kp0 c9
                refine lv_aload_n hx hb dX12_could_81 rfl (lv_at hl 1 rfl) ?_
                refine rg_13_25 C hW (mm_ rfl) tw_1048 dX12_could_82 ?_
                refine lv_aload_n hx hb dX12_could_85 rfl (lv_at hl 1 rfl) ?_
                refine rg_13_41 C hW (mm_ rfl) tw_1064 dX12_could_86 ?_
                refine lv_iload_n hx hb dX12_could_89 rfl (lv_at hl 2 rfl) ?_
                have hin : vp_in (J 13 41) 9 := tin rfl (by omega)
                refine rs_125 C hW (mm_ rfl) hin dX12_could_90 (fun H locs hW => ?_)
                refine lv_aload_n hx hb dX12_could_91 rfl (lv_at hl 1 rfl) ?_
                refine rg_13_26 C hW (mm_ rfl) tw_1049 dX12_could_92 ?_
                refine lv_aload_n hx hb dX12_could_95 rfl (lv_at hl 1 rfl) ?_
                refine rg_13_41 C hW (mm_ rfl) tw_1064 dX12_could_96 ?_
                refine lv_as (J 13 41) rfl ?_
                refine lv_iload_n hx hb dX12_could_99 rfl (lv_at hl 3 rfl) ?_
                have hin : vp_in (J 13 41) 9 := tin rfl (by omega)
                refine rs_126 C hW (mm_ rfl) hin dX12_could_100 (fun H locs hW => ?_)
                refine lv_aload_n hx hb dX12_could_101 rfl (lv_at hl 1 rfl) ?_
                refine lv_dup hx hb dX12_could_102 rfl ?_
                refine rg_13_41 C hW (mm_ rfl) tw_1064 dX12_could_103 ?_
                refine lv_as (J 13 41) rfl ?_
                refine lv_iconst (v := 1) hx hb dX12_could_106 (by decide) ?_
                refine lv_iadd hx hb dX12_could_107 ?_
                refine lv_topi (fun x10 (e10 : x10 = (J 13 41) + 1) => ?_)
                try have t10 : x10.toInt = (J 13 41).toInt + 1 := tadd e10 rfl kp1 (by omega)
                refine rp_13_41 C hW (mm_ rfl) tw_1064 dX12_could_108 (fun H locs hW => ?_)
                refine lv_aload_n hx hb dX12_could_111 rfl (lv_at hl 1 rfl) ?_
                refine rg_13_41 C hW (mm_ rfl) tw_1064 dX12_could_112 ?_
                refine lv_as x10 rfl ?_
                refine lv_iconst (v := 1) hx hb dX12_could_115 (by decide) ?_
                refine lv_isub hx hb dX12_could_116 ?_
                refine lv_topi (fun x11 (e11 : x11 = x10 - 1) => ?_)
                try have t11 : x11.toInt = x10.toInt - 1 := tsub e11 rfl kp1 (by omega)
                have hWr : WB g A s.heap H locs (hv J [100, 125, 126] [(13, 41)] (up2 (up2 (up2 J 125 ((J 13 41).toNatClampNeg) a0) 126 ((J 13 41).toNatClampNeg) a1) 13 41 x10), L, I, P, E, N) (sgM g) := by
                  rw [← ag_hvE (J := J) (R := [100, 125, 126]) (F := [(13, 41)]) (ag_up (Or.inr rfl) (ag_up (Or.inl rfl) (ag_up (Or.inl rfl) ag_rf)))]
                  exact hW
                have hwmr : WM (up2 (up2 (up2 J 125 ((J 13 41).toNatClampNeg) a0) 126 ((J 13 41).toNatClampNeg) a1) 13 41 x10) := by first | exact hwm | exact wm_could hwm (tcl _) (by omega) (by omega) (by omega)
                have hwmr : WM (hv J [100, 125, 126] [(13, 41)] (up2 (up2 (up2 J 125 ((J 13 41).toNatClampNeg) a0) 126 ((J 13 41).toNatClampNeg) a1) 13 41 x10)) := by
                  rw [← ag_hvE (J := J) (R := [100, 125, 126]) (F := [(13, 41)]) (ag_up (Or.inr rfl) (ag_up (Or.inl rfl) (ag_up (Or.inl rfl) ag_rf)))]; exact hwmr
                exact end_i C hr hlocks (up2 (up2 (up2 J 125 ((J 13 41).toNatClampNeg) a0) 126 ((J 13 41).toNatClampNeg) a1) 13 41 x10) hWr ⟨hwmr, by first | exact Or.inl ⟨by omega, by omega, show x10 = J 13 41 from by first | rfl | assumption, show (up2 J 125 ((J 13 41).toNatClampNeg) a0) 125 = J 125 from by first | rfl | assumption⟩ | exact Or.inr (Or.inl ⟨by omega, by omega, show x10 = J 13 41 from by first | rfl | exact ⟨m3.toNatClampNeg, by have := tcl m3; omega, by omega⟩, show (up2 J 125 ((J 13 41).toNatClampNeg) a0) 125 = J 125 from by first | rfl | exact ⟨m3.toNatClampNeg, by have := tcl m3; omega, by omega⟩, show (∃ k : Nat, (k : Int) < (J 13 41).toInt ∧ (J 125 k).toInt = a0.toInt) from by first | rfl | exact ⟨m3.toNatClampNeg, by have := tcl m3; omega, by omega⟩⟩) | exact Or.inr (Or.inr (Or.inl ⟨by omega, by omega, show x10 = J 13 41 from by first | rfl | (intro k hk; exact hno k (by omega)), show (up2 J 125 ((J 13 41).toNatClampNeg) a0) 125 = J 125 from by first | rfl | (intro k hk; exact hno k (by omega)), show (∀ k : Nat, (k : Int) < (J 13 41).toInt → ¬ (J 125 k).toInt = a0.toInt) from by first | rfl | (intro k hk; exact hno k (by omega))⟩)) | exact Or.inr (Or.inr (Or.inr (Or.inl ⟨by omega, by omega, show x10 = J 13 41 from by first | rfl | (intro k hk; exact hno k (by omega)), show (up2 J 125 ((J 13 41).toNatClampNeg) a0) 125 = J 125 from by first | rfl | (intro k hk; exact hno k (by omega)), show (∀ k : Nat, (k : Int) < (J 13 41).toInt → ¬ (J 125 k).toInt = a0.toInt) from by first | rfl | (intro k hk; exact hno k (by omega))⟩))) | exact Or.inr (Or.inr (Or.inr (Or.inr (⟨by omega, by omega, show (x10).toInt = (J 13 41).toInt + 1 from by first | rfl | (intro k hk; exact hno k (by omega)) | omega, show (up2 J 125 ((J 13 41).toNatClampNeg) a0) 125 = up2 J 125 (J 13 41).toNatClampNeg a0 125 from by first | rfl | (intro k hk; exact hno k (by omega)) | omega, show (∀ k : Nat, (k : Int) < (J 13 41).toInt → ¬ (J 125 k).toInt = a0.toInt) from by first | rfl | (intro k hk; exact hno k (by omega)) | omega⟩)))) | (rcases hc1 with qhc1 | qhc1 <;> rcases hc4 with qhc4 | qhc4 | qhc4 <;> first | exact Or.inl ⟨by omega, by omega, show x10 = J 13 41 from by first | rfl | assumption, show (up2 J 125 ((J 13 41).toNatClampNeg) a0) 125 = J 125 from by first | rfl | assumption⟩ | exact Or.inr (Or.inl ⟨by omega, by omega, show x10 = J 13 41 from by first | rfl | exact ⟨m3.toNatClampNeg, by have := tcl m3; omega, by omega⟩, show (up2 J 125 ((J 13 41).toNatClampNeg) a0) 125 = J 125 from by first | rfl | exact ⟨m3.toNatClampNeg, by have := tcl m3; omega, by omega⟩, show (∃ k : Nat, (k : Int) < (J 13 41).toInt ∧ (J 125 k).toInt = a0.toInt) from by first | rfl | exact ⟨m3.toNatClampNeg, by have := tcl m3; omega, by omega⟩⟩) | exact Or.inr (Or.inr (Or.inl ⟨by omega, by omega, show x10 = J 13 41 from by first | rfl | (intro k hk; exact hno k (by omega)), show (up2 J 125 ((J 13 41).toNatClampNeg) a0) 125 = J 125 from by first | rfl | (intro k hk; exact hno k (by omega)), show (∀ k : Nat, (k : Int) < (J 13 41).toInt → ¬ (J 125 k).toInt = a0.toInt) from by first | rfl | (intro k hk; exact hno k (by omega))⟩)) | exact Or.inr (Or.inr (Or.inr (Or.inl ⟨by omega, by omega, show x10 = J 13 41 from by first | rfl | (intro k hk; exact hno k (by omega)), show (up2 J 125 ((J 13 41).toNatClampNeg) a0) 125 = J 125 from by first | rfl | (intro k hk; exact hno k (by omega)), show (∀ k : Nat, (k : Int) < (J 13 41).toInt → ¬ (J 125 k).toInt = a0.toInt) from by first | rfl | (intro k hk; exact hno k (by omega))⟩))) | exact Or.inr (Or.inr (Or.inr (Or.inr (⟨by omega, by omega, show (x10).toInt = (J 13 41).toInt + 1 from by first | rfl | (intro k hk; exact hno k (by omega)) | omega, show (up2 J 125 ((J 13 41).toNatClampNeg) a0) 125 = up2 J 125 (J 13 41).toNatClampNeg a0 125 from by first | rfl | (intro k hk; exact hno k (by omega)) | omega, show (∀ k : Nat, (k : Int) < (J 13 41).toInt → ¬ (J 125 k).toInt = a0.toInt) from by first | rfl | (intro k hk; exact hno k (by omega)) | omega⟩)))) | (exfalso; omega))⟩ dX12_could_117
              · have c9 : ¬ r4.toInt = 0 := tne rfl kp0 c9
                exfalso; omega
            · have c8 : (J 13 41).toInt = 9 := teq rfl kp9 c8
              refine lv_bipush (v := (-6)) hx hb dX12_could_68 (by decide) ?_
              refine lv_istore_n (lv' := [(3, .int (-6)), (0, .ref (g.2.2.1 13)), (1, .int a0), (2, .int a1)]) hx hb dX12_could_70 rfl hl (by decide) rfl (fun ls hl => ?_)
              refine lv_iload_n hx hb dX12_could_71 rfl (lv_at hl 0 rfl) ?_
              refine lv_if_eq (tgt := 81) hx hb dX12_could_72 (by decide) (fun c12 => ?_) (fun c12 => ?_)
              · exact absurd c12 (by decide)
              · skip
                refine lv_aload_n hx hb dX12_could_75 rfl (lv_at hl 1 rfl) ?_
                refine lv_iload_n hx hb dX12_could_76 rfl (lv_at hl 0 rfl) ?_
                refine ci_ C hW (runV (x := (g.2.2.1 13)) (As := [.int (-6)]) (rest := []) (T := ((J, L, I, P, E, N), sgM g)) C hW (c_X12_refuse l g J L I P E N H.size (-6) (show -6 ≤ (-6 : Int32).toInt ∧ (-6 : Int32).toInt ≤ -1 from by (try simp only [kn6]); omega)) mi_X12_refuse tw_1239 (recv_ (T := ((J, L, I, P, E, N), sgM g)) C hW (mm_ rfl) rfl rfl) ⟨rfl, rfl, Nat.le_of_ble_eq_true rfl, Nat.le_of_ble_eq_true rfl⟩ rfl hl.1 rfl (Nat.le_of_ble_eq_true rfl) dX12_could_77 ⟨Nat.le_of_ble_eq_true rfl, Nat.le_of_ble_eq_true rfl⟩) (fun r13 u13 H locs hp13 hW => ?_)
                have hc13 : ((r13 = (-6))) := hp13
                clear hp13
                have hr13 : r13.toInt = (-6) := by rw [hc13]; exact kn6
                have hW : WB g A s.heap H locs ((hv J [100] [] u13), L, I, P, E, N) (sgM g) := hW
                have hWr : WB g A s.heap H locs (hv J [100, 125, 126] [(13, 41)] (hv J [100] [] u13), L, I, P, E, N) (sgM g) := by
                  rw [← ag_hvE (J := J) (R := [100, 125, 126]) (F := [(13, 41)]) (ag_hv rfl rfl ag_rf)]
                  exact hW
                have hwmr : WM (hv J [100] [] u13) := by first | exact hwm | exact wm_could hwm (tcl _) (by omega) (by omega) (by omega)
                have hwmr : WM (hv J [100, 125, 126] [(13, 41)] (hv J [100] [] u13)) := by
                  rw [← ag_hvE (J := J) (R := [100, 125, 126]) (F := [(13, 41)]) (ag_hv rfl rfl ag_rf)]; exact hwmr
                exact end_i C hr hlocks (hv J [100] [] u13) hWr ⟨hwmr, by first | exact Or.inl ⟨by omega, by omega, show J 13 41 = J 13 41 from by first | rfl | assumption, show J 125 = J 125 from by first | rfl | assumption⟩ | exact Or.inr (Or.inl ⟨by omega, by omega, show J 13 41 = J 13 41 from by first | rfl | exact ⟨m3.toNatClampNeg, by have := tcl m3; omega, by omega⟩, show J 125 = J 125 from by first | rfl | exact ⟨m3.toNatClampNeg, by have := tcl m3; omega, by omega⟩, show (∃ k : Nat, (k : Int) < (J 13 41).toInt ∧ (J 125 k).toInt = a0.toInt) from by first | rfl | exact ⟨m3.toNatClampNeg, by have := tcl m3; omega, by omega⟩⟩) | exact Or.inr (Or.inr (Or.inl ⟨by omega, by omega, show J 13 41 = J 13 41 from by first | rfl | (intro k hk; exact hno k (by omega)), show J 125 = J 125 from by first | rfl | (intro k hk; exact hno k (by omega)), show (∀ k : Nat, (k : Int) < (J 13 41).toInt → ¬ (J 125 k).toInt = a0.toInt) from by first | rfl | (intro k hk; exact hno k (by omega))⟩)) | exact Or.inr (Or.inr (Or.inr (Or.inl ⟨by omega, by omega, show J 13 41 = J 13 41 from by first | rfl | (intro k hk; exact hno k (by omega)), show J 125 = J 125 from by first | rfl | (intro k hk; exact hno k (by omega)), show (∀ k : Nat, (k : Int) < (J 13 41).toInt → ¬ (J 125 k).toInt = a0.toInt) from by first | rfl | (intro k hk; exact hno k (by omega))⟩))) | exact Or.inr (Or.inr (Or.inr (Or.inr (⟨by omega, by omega, show (J 13 41).toInt = (J 13 41).toInt + 1 from by first | rfl | (intro k hk; exact hno k (by omega)) | omega, show J 125 = up2 J 125 (J 13 41).toNatClampNeg a0 125 from by first | rfl | (intro k hk; exact hno k (by omega)) | omega, show (∀ k : Nat, (k : Int) < (J 13 41).toInt → ¬ (J 125 k).toInt = a0.toInt) from by first | rfl | (intro k hk; exact hno k (by omega)) | omega⟩)))) | (rcases hc1 with qhc1 | qhc1 <;> rcases hc4 with qhc4 | qhc4 | qhc4 <;> first | exact Or.inl ⟨by omega, by omega, show J 13 41 = J 13 41 from by first | rfl | assumption, show J 125 = J 125 from by first | rfl | assumption⟩ | exact Or.inr (Or.inl ⟨by omega, by omega, show J 13 41 = J 13 41 from by first | rfl | exact ⟨m3.toNatClampNeg, by have := tcl m3; omega, by omega⟩, show J 125 = J 125 from by first | rfl | exact ⟨m3.toNatClampNeg, by have := tcl m3; omega, by omega⟩, show (∃ k : Nat, (k : Int) < (J 13 41).toInt ∧ (J 125 k).toInt = a0.toInt) from by first | rfl | exact ⟨m3.toNatClampNeg, by have := tcl m3; omega, by omega⟩⟩) | exact Or.inr (Or.inr (Or.inl ⟨by omega, by omega, show J 13 41 = J 13 41 from by first | rfl | (intro k hk; exact hno k (by omega)), show J 125 = J 125 from by first | rfl | (intro k hk; exact hno k (by omega)), show (∀ k : Nat, (k : Int) < (J 13 41).toInt → ¬ (J 125 k).toInt = a0.toInt) from by first | rfl | (intro k hk; exact hno k (by omega))⟩)) | exact Or.inr (Or.inr (Or.inr (Or.inl ⟨by omega, by omega, show J 13 41 = J 13 41 from by first | rfl | (intro k hk; exact hno k (by omega)), show J 125 = J 125 from by first | rfl | (intro k hk; exact hno k (by omega)), show (∀ k : Nat, (k : Int) < (J 13 41).toInt → ¬ (J 125 k).toInt = a0.toInt) from by first | rfl | (intro k hk; exact hno k (by omega))⟩))) | exact Or.inr (Or.inr (Or.inr (Or.inr (⟨by omega, by omega, show (J 13 41).toInt = (J 13 41).toInt + 1 from by first | rfl | (intro k hk; exact hno k (by omega)) | omega, show J 125 = up2 J 125 (J 13 41).toNatClampNeg a0 125 from by first | rfl | (intro k hk; exact hno k (by omega)) | omega, show (∀ k : Nat, (k : Int) < (J 13 41).toInt → ¬ (J 125 k).toInt = a0.toInt) from by first | rfl | (intro k hk; exact hno k (by omega)) | omega⟩)))) | (exfalso; omega))⟩ dX12_could_80
        · have c3 : m3.toInt < (J 13 41).toInt := tnle rfl rfl c3
          refine lv_aload_n hx hb dX12_could_24 rfl (lv_at hl 1 rfl) ?_
          refine rg_13_25 C hW (mm_ rfl) tw_1048 dX12_could_25 ?_
          refine lv_iload_n hx hb dX12_could_28 rfl (lv_at hl 0 rfl) ?_
          have hin : vp_in m3 9 := tin rfl (by omega)
          refine ra_125 C hW (mm_ rfl) hin dX12_could_29 ?_
          refine lv_topi (fun x14 (e14 : x14 = J 125 m3.toNatClampNeg) => ?_)
          have t14 : x14.toInt = (J 125 m3.toNatClampNeg).toInt := by rw [e14]
          refine lv_iload_n hx hb dX12_could_30 rfl (lv_at hl 2 rfl) ?_
          refine lv_icmp_ne (tgt := 41) hx hb dX12_could_31 (by decide) (fun c15 => ?_) (fun c15 => ?_)
          · have c15 : ¬ x14.toInt = a0.toInt := tne rfl rfl c15
            obtain ⟨x16, e16⟩ : ∃ y : Int32, y = m3 + 1 := ⟨_, rfl⟩
            refine lv_iinc (v := x16) (lv' := [(3, .int x16), (0, .ref (g.2.2.1 13)), (1, .int a0), (2, .int a1)]) hx hb dX12_could_41 hl (k := 0) rfl (by rw [e16]; rfl) (by decide) rfl (fun ls hl => ?_)
            try have t16 : x16.toInt = m3.toInt + 1 := tadd e16 rfl kp1 (by omega)
            refine lv_goto (tgt := 16) hx hb dX12_could_44 (by decide) ?_
            refine ih x16 H locs ls ?_ ?_ ?_ hW (lv_sub hl [0, 1, 2, 3] rfl)
            · show (9 - x16.toInt).toNat < n
              omega
            · show 0 ≤ x16.toInt ∧ x16.toInt ≤ (J 13 41).toInt
              first | omega | exact hi | assumption
            · show ∀ k : Nat, (k : Int) < x16.toInt → ¬ (J 125 k).toInt = a0.toInt
              intro k hk; rcases (show (k : Int) < m3.toInt ∨ k = m3.toNatClampNeg by have := tcl m3; omega) with q | q; exact hno k q; rw [q]; omega
          · have c15 : x14.toInt = a0.toInt := teq rfl rfl c15
            refine lv_aload_n hx hb dX12_could_34 rfl (lv_at hl 1 rfl) ?_
            refine lv_bipush (v := (-3)) hx hb dX12_could_35 (by decide) ?_
            refine ci_ C hW (runV (x := (g.2.2.1 13)) (As := [.int (-3)]) (rest := []) (T := ((J, L, I, P, E, N), sgM g)) C hW (c_X12_refuse l g J L I P E N H.size (-3) (show -6 ≤ (-3 : Int32).toInt ∧ (-3 : Int32).toInt ≤ -1 from by (try simp only [kn3]); omega)) mi_X12_refuse tw_1239 (recv_ (T := ((J, L, I, P, E, N), sgM g)) C hW (mm_ rfl) rfl rfl) ⟨rfl, rfl, Nat.le_of_ble_eq_true rfl, Nat.le_of_ble_eq_true rfl⟩ rfl hl.1 rfl (Nat.le_of_ble_eq_true rfl) dX12_could_37 ⟨Nat.le_of_ble_eq_true rfl, Nat.le_of_ble_eq_true rfl⟩) (fun r17 u17 H locs hp17 hW => ?_)
            have hc17 : ((r17 = (-3))) := hp17
            clear hp17
            have hr17 : r17.toInt = (-3) := by rw [hc17]; exact kn3
            have hW : WB g A s.heap H locs ((hv J [100] [] u17), L, I, P, E, N) (sgM g) := hW
            have hWr : WB g A s.heap H locs (hv J [100, 125, 126] [(13, 41)] (hv J [100] [] u17), L, I, P, E, N) (sgM g) := by
              rw [← ag_hvE (J := J) (R := [100, 125, 126]) (F := [(13, 41)]) (ag_hv rfl rfl ag_rf)]
              exact hW
            have hwmr : WM (hv J [100] [] u17) := by first | exact hwm | exact wm_could hwm (tcl _) (by omega) (by omega) (by omega)
            have hwmr : WM (hv J [100, 125, 126] [(13, 41)] (hv J [100] [] u17)) := by
              rw [← ag_hvE (J := J) (R := [100, 125, 126]) (F := [(13, 41)]) (ag_hv rfl rfl ag_rf)]; exact hwmr
            exact end_i C hr hlocks (hv J [100] [] u17) hWr ⟨hwmr, by first | exact Or.inl ⟨by omega, by omega, show J 13 41 = J 13 41 from by first | rfl | assumption, show J 125 = J 125 from by first | rfl | assumption⟩ | exact Or.inr (Or.inl ⟨by omega, by omega, show J 13 41 = J 13 41 from by first | rfl | exact ⟨m3.toNatClampNeg, by have := tcl m3; omega, by omega⟩, show J 125 = J 125 from by first | rfl | exact ⟨m3.toNatClampNeg, by have := tcl m3; omega, by omega⟩, show (∃ k : Nat, (k : Int) < (J 13 41).toInt ∧ (J 125 k).toInt = a0.toInt) from by first | rfl | exact ⟨m3.toNatClampNeg, by have := tcl m3; omega, by omega⟩⟩) | exact Or.inr (Or.inr (Or.inl ⟨by omega, by omega, show J 13 41 = J 13 41 from by first | rfl | (intro k hk; exact hno k (by omega)), show J 125 = J 125 from by first | rfl | (intro k hk; exact hno k (by omega)), show (∀ k : Nat, (k : Int) < (J 13 41).toInt → ¬ (J 125 k).toInt = a0.toInt) from by first | rfl | (intro k hk; exact hno k (by omega))⟩)) | exact Or.inr (Or.inr (Or.inr (Or.inl ⟨by omega, by omega, show J 13 41 = J 13 41 from by first | rfl | (intro k hk; exact hno k (by omega)), show J 125 = J 125 from by first | rfl | (intro k hk; exact hno k (by omega)), show (∀ k : Nat, (k : Int) < (J 13 41).toInt → ¬ (J 125 k).toInt = a0.toInt) from by first | rfl | (intro k hk; exact hno k (by omega))⟩))) | exact Or.inr (Or.inr (Or.inr (Or.inr (⟨by omega, by omega, show (J 13 41).toInt = (J 13 41).toInt + 1 from by first | rfl | (intro k hk; exact hno k (by omega)) | omega, show J 125 = up2 J 125 (J 13 41).toNatClampNeg a0 125 from by first | rfl | (intro k hk; exact hno k (by omega)) | omega, show (∀ k : Nat, (k : Int) < (J 13 41).toInt → ¬ (J 125 k).toInt = a0.toInt) from by first | rfl | (intro k hk; exact hno k (by omega)) | omega⟩)))) | (rcases hc1 with qhc1 | qhc1 <;> first | exact Or.inl ⟨by omega, by omega, show J 13 41 = J 13 41 from by first | rfl | assumption, show J 125 = J 125 from by first | rfl | assumption⟩ | exact Or.inr (Or.inl ⟨by omega, by omega, show J 13 41 = J 13 41 from by first | rfl | exact ⟨m3.toNatClampNeg, by have := tcl m3; omega, by omega⟩, show J 125 = J 125 from by first | rfl | exact ⟨m3.toNatClampNeg, by have := tcl m3; omega, by omega⟩, show (∃ k : Nat, (k : Int) < (J 13 41).toInt ∧ (J 125 k).toInt = a0.toInt) from by first | rfl | exact ⟨m3.toNatClampNeg, by have := tcl m3; omega, by omega⟩⟩) | exact Or.inr (Or.inr (Or.inl ⟨by omega, by omega, show J 13 41 = J 13 41 from by first | rfl | (intro k hk; exact hno k (by omega)), show J 125 = J 125 from by first | rfl | (intro k hk; exact hno k (by omega)), show (∀ k : Nat, (k : Int) < (J 13 41).toInt → ¬ (J 125 k).toInt = a0.toInt) from by first | rfl | (intro k hk; exact hno k (by omega))⟩)) | exact Or.inr (Or.inr (Or.inr (Or.inl ⟨by omega, by omega, show J 13 41 = J 13 41 from by first | rfl | (intro k hk; exact hno k (by omega)), show J 125 = J 125 from by first | rfl | (intro k hk; exact hno k (by omega)), show (∀ k : Nat, (k : Int) < (J 13 41).toInt → ¬ (J 125 k).toInt = a0.toInt) from by first | rfl | (intro k hk; exact hno k (by omega))⟩))) | exact Or.inr (Or.inr (Or.inr (Or.inr (⟨by omega, by omega, show (J 13 41).toInt = (J 13 41).toInt + 1 from by first | rfl | (intro k hk; exact hno k (by omega)) | omega, show J 125 = up2 J 125 (J 13 41).toNatClampNeg a0 125 from by first | rfl | (intro k hk; exact hno k (by omega)) | omega, show (∀ k : Nat, (k : Int) < (J 13 41).toInt → ¬ (J 125 k).toInt = a0.toInt) from by first | rfl | (intro k hk; exact hno k (by omega)) | omega⟩)))) | (exfalso; omega))⟩ dX12_could_40
    -- into the loop
    refine loop16 ((9 - (0 : Int32).toInt).toNat + 1) 0 H locs ls ?_ ?_ ?_ hW (lv_sub hl [0, 1, 2, 3] rfl)
    · exact Nat.lt_succ_self _
    · show 0 ≤ (0 : Int32).toInt ∧ (0 : Int32).toInt ≤ (J 13 41).toInt
      try rw [kp0]
      first | omega | exact hi | assumption
    · show ∀ k : Nat, (k : Int) < (0 : Int32).toInt → ¬ (J 125 k).toInt = a0.toInt
      try rw [kp0]
      intro k hk; omega
  · have c2 : r1.toInt = 0 := teq rfl kp0 c2
    refine lv_aload_n hx hb dX12_could_8 rfl (lv_at hl 0 rfl) ?_
    refine lv_iconst (v := (-1)) hx hb dX12_could_9 (by decide) ?_
    refine ci_ C hW (runV (x := (g.2.2.1 13)) (As := [.int (-1)]) (rest := []) (T := ((J, L, I, P, E, N), sgM g)) C hW (c_X12_refuse l g J L I P E N H.size (-1) (show -6 ≤ (-1 : Int32).toInt ∧ (-1 : Int32).toInt ≤ -1 from by (try simp only [kn1]); omega)) mi_X12_refuse tw_1239 (recv_ (T := ((J, L, I, P, E, N), sgM g)) C hW (mm_ rfl) rfl rfl) ⟨rfl, rfl, Nat.le_of_ble_eq_true rfl, Nat.le_of_ble_eq_true rfl⟩ rfl hl.1 rfl (Nat.le_of_ble_eq_true rfl) dX12_could_10 ⟨Nat.le_of_ble_eq_true rfl, Nat.le_of_ble_eq_true rfl⟩) (fun r18 u18 H locs hp18 hW => ?_)
    have hc18 : ((r18 = (-1))) := hp18
    clear hp18
    have hr18 : r18.toInt = (-1) := by rw [hc18]; exact kn1
    have hW : WB g A s.heap H locs ((hv J [100] [] u18), L, I, P, E, N) (sgM g) := hW
    have hWr : WB g A s.heap H locs (hv J [100, 125, 126] [(13, 41)] (hv J [100] [] u18), L, I, P, E, N) (sgM g) := by
      rw [← ag_hvE (J := J) (R := [100, 125, 126]) (F := [(13, 41)]) (ag_hv rfl rfl ag_rf)]
      exact hW
    have hwmr : WM (hv J [100] [] u18) := by first | exact hwm | exact wm_could hwm (tcl _) (by omega) (by omega) (by omega)
    have hwmr : WM (hv J [100, 125, 126] [(13, 41)] (hv J [100] [] u18)) := by
      rw [← ag_hvE (J := J) (R := [100, 125, 126]) (F := [(13, 41)]) (ag_hv rfl rfl ag_rf)]; exact hwmr
    exact end_i C hr hlocks (hv J [100] [] u18) hWr ⟨hwmr, by first | exact Or.inl ⟨by omega, by omega, show J 13 41 = J 13 41 from by first | rfl | assumption, show J 125 = J 125 from by first | rfl | assumption⟩ | exact Or.inr (Or.inl ⟨by omega, by omega, show J 13 41 = J 13 41 from by first | rfl | exact ⟨m3.toNatClampNeg, by have := tcl m3; omega, by omega⟩, show J 125 = J 125 from by first | rfl | exact ⟨m3.toNatClampNeg, by have := tcl m3; omega, by omega⟩, show (∃ k : Nat, (k : Int) < (J 13 41).toInt ∧ (J 125 k).toInt = a0.toInt) from by first | rfl | exact ⟨m3.toNatClampNeg, by have := tcl m3; omega, by omega⟩⟩) | exact Or.inr (Or.inr (Or.inl ⟨by omega, by omega, show J 13 41 = J 13 41 from by first | rfl | (intro k hk; exact hno k (by omega)), show J 125 = J 125 from by first | rfl | (intro k hk; exact hno k (by omega)), show (∀ k : Nat, (k : Int) < (J 13 41).toInt → ¬ (J 125 k).toInt = a0.toInt) from by first | rfl | (intro k hk; exact hno k (by omega))⟩)) | exact Or.inr (Or.inr (Or.inr (Or.inl ⟨by omega, by omega, show J 13 41 = J 13 41 from by first | rfl | (intro k hk; exact hno k (by omega)), show J 125 = J 125 from by first | rfl | (intro k hk; exact hno k (by omega)), show (∀ k : Nat, (k : Int) < (J 13 41).toInt → ¬ (J 125 k).toInt = a0.toInt) from by first | rfl | (intro k hk; exact hno k (by omega))⟩))) | exact Or.inr (Or.inr (Or.inr (Or.inr (⟨by omega, by omega, show (J 13 41).toInt = (J 13 41).toInt + 1 from by first | rfl | (intro k hk; exact hno k (by omega)) | omega, show J 125 = up2 J 125 (J 13 41).toNatClampNeg a0 125 from by first | rfl | (intro k hk; exact hno k (by omega)) | omega, show (∀ k : Nat, (k : Int) < (J 13 41).toInt → ¬ (J 125 k).toInt = a0.toInt) from by first | rfl | (intro k hk; exact hno k (by omega)) | omega⟩)))) | (rcases hc1 with qhc1 | qhc1 <;> first | exact Or.inl ⟨by omega, by omega, show J 13 41 = J 13 41 from by first | rfl | assumption, show J 125 = J 125 from by first | rfl | assumption⟩ | exact Or.inr (Or.inl ⟨by omega, by omega, show J 13 41 = J 13 41 from by first | rfl | exact ⟨m3.toNatClampNeg, by have := tcl m3; omega, by omega⟩, show J 125 = J 125 from by first | rfl | exact ⟨m3.toNatClampNeg, by have := tcl m3; omega, by omega⟩, show (∃ k : Nat, (k : Int) < (J 13 41).toInt ∧ (J 125 k).toInt = a0.toInt) from by first | rfl | exact ⟨m3.toNatClampNeg, by have := tcl m3; omega, by omega⟩⟩) | exact Or.inr (Or.inr (Or.inl ⟨by omega, by omega, show J 13 41 = J 13 41 from by first | rfl | (intro k hk; exact hno k (by omega)), show J 125 = J 125 from by first | rfl | (intro k hk; exact hno k (by omega)), show (∀ k : Nat, (k : Int) < (J 13 41).toInt → ¬ (J 125 k).toInt = a0.toInt) from by first | rfl | (intro k hk; exact hno k (by omega))⟩)) | exact Or.inr (Or.inr (Or.inr (Or.inl ⟨by omega, by omega, show J 13 41 = J 13 41 from by first | rfl | (intro k hk; exact hno k (by omega)), show J 125 = J 125 from by first | rfl | (intro k hk; exact hno k (by omega)), show (∀ k : Nat, (k : Int) < (J 13 41).toInt → ¬ (J 125 k).toInt = a0.toInt) from by first | rfl | (intro k hk; exact hno k (by omega))⟩))) | exact Or.inr (Or.inr (Or.inr (Or.inr (⟨by omega, by omega, show (J 13 41).toInt = (J 13 41).toInt + 1 from by first | rfl | (intro k hk; exact hno k (by omega)) | omega, show J 125 = up2 J 125 (J 13 41).toNatClampNeg a0 125 from by first | rfl | (intro k hk; exact hno k (by omega)) | omega, show (∀ k : Nat, (k : Int) < (J 13 41).toInt → ¬ (J 125 k).toInt = a0.toInt) from by first | rfl | (intro k hk; exact hno k (by omega)) | omega⟩)))) | (exfalso; omega))⟩ dX12_could_13
