theorem mxr {g : gG} {dy : List (Nat × Nat)} {r : Nat} (h : nel r lroles = true) : (r, g.2.2.1 r) ∈ sgX g ++ dy := by
  rcases lr_cases h with q | q | q | q | q | q | q | q <;> subst q <;> exact mx_ rfl
theorem dJx4a65c_size_8abf5_0 : decode cJx4a65c_size_8abf5 0 = .ok (.aload_n 0, 1) := dk_aload_n_0 (by decide +kernel)
theorem dJx4a65c_size_8abf5_1 : decode cJx4a65c_size_8abf5 1 = .ok (.getfield 48, 3) := dk_getfield (by decide +kernel)
theorem dJx4a65c_size_8abf5_4 : decode cJx4a65c_size_8abf5 4 = .ok (.ireturn, 1) := dk_ireturn (by decide +kernel)
theorem dJx4a65c_isEmpty_aae02_0 : decode cJx4a65c_isEmpty_aae02 0 = .ok (.aload_n 0, 1) := dk_aload_n_0 (by decide +kernel)
theorem dJx4a65c_isEmpty_aae02_1 : decode cJx4a65c_isEmpty_aae02 1 = .ok (.getfield 48, 3) := dk_getfield (by decide +kernel)
theorem dJx4a65c_isEmpty_aae02_4 : decode cJx4a65c_isEmpty_aae02 4 = .ok (.ifCond .ne 7, 3) := dk_ifCond_ne (by decide +kernel)
theorem dJx4a65c_isEmpty_aae02_7 : decode cJx4a65c_isEmpty_aae02 7 = .ok (.iconst 1, 1) := dk_iconst_1 (by decide +kernel)
theorem dJx4a65c_isEmpty_aae02_8 : decode cJx4a65c_isEmpty_aae02 8 = .ok (.goto 4, 3) := dk_goto (by decide +kernel)
theorem dJx4a65c_isEmpty_aae02_11 : decode cJx4a65c_isEmpty_aae02 11 = .ok (.iconst 0, 1) := dk_iconst_0 (by decide +kernel)
theorem dJx4a65c_isEmpty_aae02_12 : decode cJx4a65c_isEmpty_aae02 12 = .ok (.ireturn, 1) := dk_ireturn (by decide +kernel)
theorem dJ3_checkIndex_8e157_0 : decode cJ3_checkIndex_8e157 0 = .ok (.iload_n 0, 1) := dk_iload_n_0 (by decide +kernel)
theorem dJ3_checkIndex_8e157_1 : decode cJ3_checkIndex_8e157 1 = .ok (.ifCond .lt 8, 3) := dk_ifCond_lt (by decide +kernel)
theorem dJ3_checkIndex_8e157_4 : decode cJ3_checkIndex_8e157 4 = .ok (.iload_n 0, 1) := dk_iload_n_0 (by decide +kernel)
theorem dJ3_checkIndex_8e157_5 : decode cJ3_checkIndex_8e157 5 = .ok (.iload_n 1, 1) := dk_iload_n_1 (by decide +kernel)
theorem dJ3_checkIndex_8e157_6 : decode cJ3_checkIndex_8e157 6 = .ok (.if_icmp .lt 10, 3) := dk_if_icmp_lt (by decide +kernel)
theorem dJ3_checkIndex_8e157_16 : decode cJ3_checkIndex_8e157 16 = .ok (.iload_n 0, 1) := dk_iload_n_0 (by decide +kernel)
theorem dJ3_checkIndex_8e157_17 : decode cJ3_checkIndex_8e157 17 = .ok (.ireturn, 1) := dk_ireturn (by decide +kernel)
theorem dJ15_checkIndex_7cf53_0 : decode cJ15_checkIndex_7cf53 0 = .ok (.iload_n 0, 1) := dk_iload_n_0 (by decide +kernel)
theorem dJ15_checkIndex_7cf53_1 : decode cJ15_checkIndex_7cf53 1 = .ok (.iload_n 1, 1) := dk_iload_n_1 (by decide +kernel)
theorem dJ15_checkIndex_7cf53_2 : decode cJ15_checkIndex_7cf53 2 = .ok (.aconst_null, 1) := dk_aconst_null (by decide +kernel)
theorem dJ15_checkIndex_7cf53_3 : decode cJ15_checkIndex_7cf53 3 = .ok (.invokestatic 105, 3) := dk_invokestatic (by decide +kernel)
theorem dJ15_checkIndex_7cf53_6 : decode cJ15_checkIndex_7cf53 6 = .ok (.ireturn, 1) := dk_ireturn (by decide +kernel)
theorem dJx4a65c_elementData_915e3_0 : decode cJx4a65c_elementData_915e3 0 = .ok (.aload_n 0, 1) := dk_aload_n_0 (by decide +kernel)
theorem dJx4a65c_elementData_915e3_1 : decode cJx4a65c_elementData_915e3 1 = .ok (.getfield 9, 3) := dk_getfield (by decide +kernel)
theorem dJx4a65c_elementData_915e3_4 : decode cJx4a65c_elementData_915e3 4 = .ok (.iload_n 1, 1) := dk_iload_n_1 (by decide +kernel)
theorem dJx4a65c_elementData_915e3_5 : decode cJx4a65c_elementData_915e3 5 = .ok (.aaload, 1) := dk_aaload (by decide +kernel)
theorem dJx4a65c_elementData_915e3_6 : decode cJx4a65c_elementData_915e3 6 = .ok (.areturn, 1) := dk_areturn (by decide +kernel)
theorem dJx4a65c_get_915e3_0 : decode cJx4a65c_get_915e3 0 = .ok (.iload_n 1, 1) := dk_iload_n_1 (by decide +kernel)
theorem dJx4a65c_get_915e3_1 : decode cJx4a65c_get_915e3 1 = .ok (.aload_n 0, 1) := dk_aload_n_0 (by decide +kernel)
theorem dJx4a65c_get_915e3_2 : decode cJx4a65c_get_915e3 2 = .ok (.getfield 48, 3) := dk_getfield (by decide +kernel)
theorem dJx4a65c_get_915e3_5 : decode cJx4a65c_get_915e3 5 = .ok (.invokestatic 118, 3) := dk_invokestatic (by decide +kernel)
theorem dJx4a65c_get_915e3_8 : decode cJx4a65c_get_915e3 8 = .ok (.pop, 1) := dk_pop (by decide +kernel)
theorem dJx4a65c_get_915e3_9 : decode cJx4a65c_get_915e3 9 = .ok (.aload_n 0, 1) := dk_aload_n_0 (by decide +kernel)
theorem dJx4a65c_get_915e3_10 : decode cJx4a65c_get_915e3 10 = .ok (.iload_n 1, 1) := dk_iload_n_1 (by decide +kernel)
theorem dJx4a65c_get_915e3_11 : decode cJx4a65c_get_915e3 11 = .ok (.invokevirtual 123, 3) := dk_invokevirtual (by decide +kernel)
theorem dJx4a65c_get_915e3_14 : decode cJx4a65c_get_915e3 14 = .ok (.areturn, 1) := dk_areturn (by decide +kernel)
set_option maxHeartbeats 4000000 in
set_option maxRecDepth 100000 in
theorem c_Jx4a65c_size_8abf5 (l : Launch) (g : gG) (J : Nat → Nat → Int32) (L : Nat → Nat → Int64) (I : Nat → Nat → Nat → Int32) (P : Nat → Nat → Nat → Option Nat) (E : Nat → Option Nat) (N : Nat → Nat) (dy : List (Nat × Nat)) (sz : Nat) (r : Nat) (hlr : nel r lroles = true)  : Met l yJx4a65c_size_8abf5 (WS yJx4a65c_size_8abf5 cJx4a65c_size_8abf5 1 (some .int)) (RM (1) 0 0) (PC g [.ref (g.2.2.1 r)] ((J, L, I, P, E, N), sgX g ++ dy) sz) (va_Qi (fun (r9 : Int32) (u : Unit) => ((r9 = J r 2))) (fun u t => at_ g (FR g ((J, L, I, P, E, N), sgX g ++ dy) sz) ((J, L, I, P, E, N), sgX g ++ dy) t) (FR g ((J, L, I, P, E, N), sgX g ++ dy) sz)) 0 0 (FR g ((J, L, I, P, E, N), sgX g ++ dy) sz) := by
  refine ent (by decide +kernel) (Nat.le_of_ble_eq_true rfl) ?_
  intro p e s m below meth c ls hsz C hW hr hlocks hname hl
  generalize FR g ((J, L, I, P, E, N), sgX g ++ dy) sz = A at C hW ⊢
  have hx := C.1.1
  have hb := C.1.2.1
  have hts := C.1.2.2.2.2
  have hl : lv_has ls 1 [(0, .ref (g.2.2.1 r))] := hl
  obtain ⟨H, hH⟩ : ∃ H : Heap, H = s.heap := ⟨_, rfl⟩
  obtain ⟨locs, hlocs⟩ : ∃ q : List Loc, q = [] := ⟨_, rfl⟩
  have hW : WB g A s.heap H locs (J, L, I, P, E, N) (sgX g ++ dy) := by rw [hH, hlocs]; exact hW
  refine start_ hH hlocs ?_
  refine lv_aload_n hx hb dJx4a65c_size_8abf5_0 rfl (lv_at hl 0 rfl) ?_
  refine lg_size C hW hlr (mxr hlr) tw_120 dJx4a65c_size_8abf5_1 ?_
  exact end_i C hr hlocks () hW (by first | exact (by first | rfl | assumption)) dJx4a65c_size_8abf5_4

set_option maxHeartbeats 4000000 in
set_option maxRecDepth 100000 in
theorem c_Jx4a65c_isEmpty_aae02 (l : Launch) (g : gG) (J : Nat → Nat → Int32) (L : Nat → Nat → Int64) (I : Nat → Nat → Nat → Int32) (P : Nat → Nat → Nat → Option Nat) (E : Nat → Option Nat) (N : Nat → Nat) (dy : List (Nat × Nat)) (sz : Nat) (r : Nat) (hlr : nel r lroles = true)  : Met l yJx4a65c_isEmpty_aae02 (WS yJx4a65c_isEmpty_aae02 cJx4a65c_isEmpty_aae02 1 (some .boolean)) (RM (1) 0 0) (PC g [.ref (g.2.2.1 r)] ((J, L, I, P, E, N), sgX g ++ dy) sz) (va_Qi (fun (r9 : Int32) (u : Unit) => ((r9.toInt = 1 ∧ ((J r 2).toInt = 0)) ∨ (r9.toInt = 0 ∧ (¬ (J r 2).toInt = 0)))) (fun u t => at_ g (FR g ((J, L, I, P, E, N), sgX g ++ dy) sz) ((J, L, I, P, E, N), sgX g ++ dy) t) (FR g ((J, L, I, P, E, N), sgX g ++ dy) sz)) 0 0 (FR g ((J, L, I, P, E, N), sgX g ++ dy) sz) := by
  refine ent (by decide +kernel) (Nat.le_of_ble_eq_true rfl) ?_
  intro p e s m below meth c ls hsz C hW hr hlocks hname hl
  generalize FR g ((J, L, I, P, E, N), sgX g ++ dy) sz = A at C hW ⊢
  have hx := C.1.1
  have hb := C.1.2.1
  have hts := C.1.2.2.2.2
  have hl : lv_has ls 1 [(0, .ref (g.2.2.1 r))] := hl
  obtain ⟨H, hH⟩ : ∃ H : Heap, H = s.heap := ⟨_, rfl⟩
  obtain ⟨locs, hlocs⟩ : ∃ q : List Loc, q = [] := ⟨_, rfl⟩
  have hW : WB g A s.heap H locs (J, L, I, P, E, N) (sgX g ++ dy) := by rw [hH, hlocs]; exact hW
  refine start_ hH hlocs ?_
  refine lv_aload_n hx hb dJx4a65c_isEmpty_aae02_0 rfl (lv_at hl 0 rfl) ?_
  refine lg_size C hW hlr (mxr hlr) tw_120 dJx4a65c_isEmpty_aae02_1 ?_
  refine lv_if_ne (tgt := 11) hx hb dJx4a65c_isEmpty_aae02_4 (by decide) (fun c1 => ?_) (fun c1 => ?_)
  · have c1 : ¬ (J r 2).toInt = 0 := tne rfl kp0 c1
    refine lv_iconst (v := 0) hx hb dJx4a65c_isEmpty_aae02_11 (by decide) ?_
    exact end_z C hr hlocks (by decide) () hW (by first | exact Or.inr (⟨by decide, by omega⟩)) dJx4a65c_isEmpty_aae02_12
  · have c1 : (J r 2).toInt = 0 := teq rfl kp0 c1
    refine lv_iconst (v := 1) hx hb dJx4a65c_isEmpty_aae02_7 (by decide) ?_
    refine lv_goto (tgt := 12) hx hb dJx4a65c_isEmpty_aae02_8 (by decide) ?_
    exact end_z C hr hlocks (by decide) () hW (by first | exact Or.inl ⟨by decide, by omega⟩) dJx4a65c_isEmpty_aae02_12

set_option maxHeartbeats 4000000 in
set_option maxRecDepth 100000 in
theorem c_J3_checkIndex_8e157 (l : Launch) (g : gG) (J : Nat → Nat → Int32) (L : Nat → Nat → Int64) (I : Nat → Nat → Nat → Int32) (P : Nat → Nat → Nat → Option Nat) (E : Nat → Option Nat) (N : Nat → Nat) (dy : List (Nat × Nat)) (sz : Nat) (a0 : Int32) (a1 : Int32) (hi : 0 ≤ a0.toInt ∧ a0.toInt < a1.toInt) : Met l yJ3_checkIndex_8e157 (WS yJ3_checkIndex_8e157 cJ3_checkIndex_8e157 3 (some .int)) (RM (1) 0 0) (PC g [.int a0, .int a1, .null] ((J, L, I, P, E, N), sgX g ++ dy) sz) (va_Qi (fun (r : Int32) (u : Unit) => ((r = a0))) (fun u t => at_ g (FR g ((J, L, I, P, E, N), sgX g ++ dy) sz) ((J, L, I, P, E, N), sgX g ++ dy) t) (FR g ((J, L, I, P, E, N), sgX g ++ dy) sz)) 0 0 (FR g ((J, L, I, P, E, N), sgX g ++ dy) sz) := by
  refine ent (by decide +kernel) (Nat.le_of_ble_eq_true rfl) ?_
  intro p e s m below meth c ls hsz C hW hr hlocks hname hl
  generalize FR g ((J, L, I, P, E, N), sgX g ++ dy) sz = A at C hW ⊢
  have hx := C.1.1
  have hb := C.1.2.1
  have hts := C.1.2.2.2.2
  have hl : lv_has ls 3 [(0, .int a0), (1, .int a1), (2, .null)] := hl
  obtain ⟨H, hH⟩ : ∃ H : Heap, H = s.heap := ⟨_, rfl⟩
  obtain ⟨locs, hlocs⟩ : ∃ q : List Loc, q = [] := ⟨_, rfl⟩
  have hW : WB g A s.heap H locs (J, L, I, P, E, N) (sgX g ++ dy) := by rw [hH, hlocs]; exact hW
  refine start_ hH hlocs ?_
  refine lv_iload_n hx hb dJ3_checkIndex_8e157_0 rfl (lv_at hl 0 rfl) ?_
  refine lv_if_lt (tgt := 9) hx hb dJ3_checkIndex_8e157_1 (by decide) (fun c1 => ?_) (fun c1 => ?_)
  · have c1 : a0.toInt < 0 := tlt rfl kp0 c1
    exfalso; omega
  · have c1 : 0 ≤ a0.toInt := tnlt rfl kp0 c1
    refine lv_iload_n hx hb dJ3_checkIndex_8e157_4 rfl (lv_at hl 0 rfl) ?_
    refine lv_iload_n hx hb dJ3_checkIndex_8e157_5 rfl (lv_at hl 1 rfl) ?_
    refine lv_icmp_lt (tgt := 16) hx hb dJ3_checkIndex_8e157_6 (by decide) (fun c2 => ?_) (fun c2 => ?_)
    · have c2 : a0.toInt < a1.toInt := tlt rfl rfl c2
      refine lv_iload_n hx hb dJ3_checkIndex_8e157_16 rfl (lv_at hl 0 rfl) ?_
      exact end_i C hr hlocks () hW (by first | exact (by first | rfl | assumption)) dJ3_checkIndex_8e157_17
    · have c2 : a1.toInt ≤ a0.toInt := tnlt rfl rfl c2
      exfalso; omega

set_option maxHeartbeats 4000000 in
set_option maxRecDepth 100000 in
theorem c_J15_checkIndex_7cf53 (l : Launch) (g : gG) (J : Nat → Nat → Int32) (L : Nat → Nat → Int64) (I : Nat → Nat → Nat → Int32) (P : Nat → Nat → Nat → Option Nat) (E : Nat → Option Nat) (N : Nat → Nat) (dy : List (Nat × Nat)) (sz : Nat) (a0 : Int32) (a1 : Int32) (hi : 0 ≤ a0.toInt ∧ a0.toInt < a1.toInt) : Met l yJ15_checkIndex_7cf53 (WS yJ15_checkIndex_7cf53 cJ15_checkIndex_7cf53 2 (some .int)) (RM (2) 0 0) (PC g [.int a0, .int a1] ((J, L, I, P, E, N), sgX g ++ dy) sz) (va_Qi (fun (r : Int32) (u : Unit) => ((r = a0))) (fun u t => at_ g (FR g ((J, L, I, P, E, N), sgX g ++ dy) sz) ((J, L, I, P, E, N), sgX g ++ dy) t) (FR g ((J, L, I, P, E, N), sgX g ++ dy) sz)) 0 0 (FR g ((J, L, I, P, E, N), sgX g ++ dy) sz) := by
  refine ent (by decide +kernel) (Nat.le_of_ble_eq_true rfl) ?_
  intro p e s m below meth c ls hsz C hW hr hlocks hname hl
  generalize FR g ((J, L, I, P, E, N), sgX g ++ dy) sz = A at C hW ⊢
  have hx := C.1.1
  have hb := C.1.2.1
  have hts := C.1.2.2.2.2
  have hl : lv_has ls 2 [(0, .int a0), (1, .int a1)] := hl
  obtain ⟨H, hH⟩ : ∃ H : Heap, H = s.heap := ⟨_, rfl⟩
  obtain ⟨locs, hlocs⟩ : ∃ q : List Loc, q = [] := ⟨_, rfl⟩
  have hW : WB g A s.heap H locs (J, L, I, P, E, N) (sgX g ++ dy) := by rw [hH, hlocs]; exact hW
  refine start_ hH hlocs ?_
  refine lv_iload_n hx hb dJ15_checkIndex_7cf53_0 rfl (lv_at hl 0 rfl) ?_
  refine lv_iload_n hx hb dJ15_checkIndex_7cf53_1 rfl (lv_at hl 1 rfl) ?_
  refine lv_null hx hb dJ15_checkIndex_7cf53_2 ?_
  refine ci_ C hW (runS (As := [.int a0, .int a1, .null]) (rest := []) (T := ((J, L, I, P, E, N), sgX g ++ dy)) C hW (c_J3_checkIndex_8e157 l g J L I P E N dy H.size a0 a1 (show 0 ≤ a0.toInt ∧ a0.toInt < a1.toInt from by omega)) mi_J3_checkIndex_8e157 tw_478 ⟨rfl, rfl, Nat.le_of_ble_eq_true rfl, Nat.le_of_ble_eq_true rfl⟩ rfl hl.1 rfl (Nat.le_of_ble_eq_true rfl) dJ15_checkIndex_7cf53_3 ⟨Nat.le_of_ble_eq_true rfl, Nat.le_of_ble_eq_true rfl⟩) (fun r1 u1 H locs hp1 hW => ?_)
  have hc1 : ((r1 = a0)) := hp1
  clear hp1
  have hr1 : r1.toInt = (a0).toInt := by rw [hc1]
  have hW : WB g A s.heap H locs (J, L, I, P, E, N) (sgX g ++ dy) := hW
  exact end_i C hr hlocks () hW (by first | exact (by first | rfl | assumption)) dJ15_checkIndex_7cf53_6

set_option maxHeartbeats 4000000 in
set_option maxRecDepth 100000 in
theorem c_Jx4a65c_elementData_915e3 (er : Nat) (l : Launch) (g : gG) (J : Nat → Nat → Int32) (L : Nat → Nat → Int64) (I : Nat → Nat → Nat → Int32) (P : Nat → Nat → Nat → Option Nat) (E : Nat → Option Nat) (N : Nat → Nat) (dy : List (Nat × Nat)) (sz : Nat) (r : Nat) (hlr : nel r lroles = true) (a0 : Int32) (hlw : LWF g J P E N dy r er) (hi : 0 ≤ a0.toInt ∧ a0.toInt < (J r 2).toInt) : Met l yJx4a65c_elementData_915e3 (WS yJx4a65c_elementData_915e3 cJx4a65c_elementData_915e3 2 (some (.object "java/lang/Object"))) (RM (1) 0 0) (PC g [.ref (g.2.2.1 r), .int a0] ((J, L, I, P, E, N), sgX g ++ dy) sz) (va_Qq (fun (r9 : Option Nat) (u : Unit) => (r9 = some (elt E P r a0.toNatClampNeg))) (fun u t => at_ g (FR g ((J, L, I, P, E, N), sgX g ++ dy) sz) ((J, L, I, P, E, N), sgX g ++ dy) t) (FR g ((J, L, I, P, E, N), sgX g ++ dy) sz)) 0 0 (FR g ((J, L, I, P, E, N), sgX g ++ dy) sz) := by
  refine ent (by decide +kernel) (Nat.le_of_ble_eq_true rfl) ?_
  intro p e s m below meth c ls hsz C hW hr hlocks hname hl
  generalize FR g ((J, L, I, P, E, N), sgX g ++ dy) sz = A at C hW ⊢
  have hx := C.1.1
  have hb := C.1.2.1
  have hts := C.1.2.2.2.2
  have hl : lv_has ls 2 [(0, .ref (g.2.2.1 r)), (1, .int a0)] := hl
  obtain ⟨H, hH⟩ : ∃ H : Heap, H = s.heap := ⟨_, rfl⟩
  obtain ⟨locs, hlocs⟩ : ∃ q : List Loc, q = [] := ⟨_, rfl⟩
  have hW : WB g A s.heap H locs (J, L, I, P, E, N) (sgX g ++ dy) := by rw [hH, hlocs]; exact hW
  rcases hlw.2.2 with ⟨hz3, hz4⟩ | ⟨b, hE, hbm, hNb, hN2, hN3, hel⟩
  · exfalso; omega
  refine start_ hH hlocs ?_
  refine lv_aload_n hx hb dJx4a65c_elementData_915e3_0 rfl (lv_at hl 0 rfl) ?_
  refine lg_elem C hW hlr (mxr hlr) tw_119 dJx4a65c_elementData_915e3_1 ?_
  refine lv_asv (v' := .ref b) (by rw [hE]; rfl) ?_
  refine lv_iload_n hx hb dJx4a65c_elementData_915e3_4 rfl (lv_at hl 1 rfl) ?_
  have hin : vp_in a0 (N b) := tin rfl (by omega)
  obtain ⟨q, hq1, hq2⟩ := hel a0.toNatClampNeg (by have := tcl a0; omega)
  have he : elt E P r a0.toNatClampNeg = q := by unfold elt; rw [hE]; simp [hq1]
  refine g_qald C hW (List.mem_append_right _ hbm) (cel_back hlr) hin dJx4a65c_elementData_915e3_5 ?_
  refine lv_asv (v' := .ref (elt E P r a0.toNatClampNeg)) (by rw [he]; show va_rf (P (r + 10) _ b) = _; rw [hq1]; rfl) ?_
  exact end_q (v := some (elt E P r a0.toNatClampNeg)) C hr (Or.inl ⟨_, rfl⟩) hlocks () hW (rfl) dJx4a65c_elementData_915e3_6

set_option maxHeartbeats 4000000 in
set_option maxRecDepth 100000 in
theorem c_Jx4a65c_get_915e3 (er : Nat) (l : Launch) (g : gG) (J : Nat → Nat → Int32) (L : Nat → Nat → Int64) (I : Nat → Nat → Nat → Int32) (P : Nat → Nat → Nat → Option Nat) (E : Nat → Option Nat) (N : Nat → Nat) (dy : List (Nat × Nat)) (sz : Nat) (r : Nat) (hlr : nel r lroles = true) (a0 : Int32) (hlw : LWF g J P E N dy r er) (hi : 0 ≤ a0.toInt ∧ a0.toInt < (J r 2).toInt) : Met l yJx4a65c_get_915e3 (WS yJx4a65c_get_915e3 cJx4a65c_get_915e3 2 (some (.object "java/lang/Object"))) (RM (3) 0 0) (PC g [.ref (g.2.2.1 r), .int a0] ((J, L, I, P, E, N), sgX g ++ dy) sz) (va_Qq (fun (r9 : Option Nat) (u : Unit) => (r9 = some (elt E P r a0.toNatClampNeg))) (fun u t => at_ g (FR g ((J, L, I, P, E, N), sgX g ++ dy) sz) ((J, L, I, P, E, N), sgX g ++ dy) t) (FR g ((J, L, I, P, E, N), sgX g ++ dy) sz)) 0 0 (FR g ((J, L, I, P, E, N), sgX g ++ dy) sz) := by
  refine ent (by decide +kernel) (Nat.le_of_ble_eq_true rfl) ?_
  intro p e s m below meth c ls hsz C hW hr hlocks hname hl
  generalize FR g ((J, L, I, P, E, N), sgX g ++ dy) sz = A at C hW ⊢
  have hx := C.1.1
  have hb := C.1.2.1
  have hts := C.1.2.2.2.2
  have hl : lv_has ls 2 [(0, .ref (g.2.2.1 r)), (1, .int a0)] := hl
  obtain ⟨H, hH⟩ : ∃ H : Heap, H = s.heap := ⟨_, rfl⟩
  obtain ⟨locs, hlocs⟩ : ∃ q : List Loc, q = [] := ⟨_, rfl⟩
  have hW : WB g A s.heap H locs (J, L, I, P, E, N) (sgX g ++ dy) := by rw [hH, hlocs]; exact hW
  refine start_ hH hlocs ?_
  refine lv_iload_n hx hb dJx4a65c_get_915e3_0 rfl (lv_at hl 1 rfl) ?_
  refine lv_aload_n hx hb dJx4a65c_get_915e3_1 rfl (lv_at hl 0 rfl) ?_
  refine lg_size C hW hlr (mxr hlr) tw_120 dJx4a65c_get_915e3_2 ?_
  refine ci_ C hW (runS (As := [.int a0, .int (J r 2)]) (rest := []) (T := ((J, L, I, P, E, N), sgX g ++ dy)) C hW (c_J15_checkIndex_7cf53 l g J L I P E N dy H.size a0 (J r 2) (show 0 ≤ a0.toInt ∧ a0.toInt < (J r 2).toInt from by omega)) mi_J15_checkIndex_7cf53 tw_475 ⟨rfl, rfl, Nat.le_of_ble_eq_true rfl, Nat.le_of_ble_eq_true rfl⟩ rfl hl.1 rfl (Nat.le_of_ble_eq_true rfl) dJx4a65c_get_915e3_5 ⟨Nat.le_of_ble_eq_true rfl, Nat.le_of_ble_eq_true rfl⟩) (fun r1 u1 H locs hp1 hW => ?_)
  have hc1 : ((r1 = a0)) := hp1
  clear hp1
  have hr1 : r1.toInt = (a0).toInt := by rw [hc1]
  have hW : WB g A s.heap H locs (J, L, I, P, E, N) (sgX g ++ dy) := hW
  refine lv_pop hx hb dJx4a65c_get_915e3_8 rfl ?_
  refine lv_aload_n hx hb dJx4a65c_get_915e3_9 rfl (lv_at hl 0 rfl) ?_
  refine lv_iload_n hx hb dJx4a65c_get_915e3_10 rfl (lv_at hl 1 rfl) ?_
  refine cq_ C hW (runV (x := (g.2.2.1 r)) (As := [.int a0]) (rest := []) (T := ((J, L, I, P, E, N), sgX g ++ dy)) C hW ((c_Jx4a65c_elementData_915e3 er) l g J L I P E N dy H.size r hlr a0 (show LWF g J P E N dy r er from hlw) (show 0 ≤ a0.toInt ∧ a0.toInt < (J r 2).toInt from by omega)) mi_Jx4a65c_elementData_915e3 tw_481 (recv_ (T := ((J, L, I, P, E, N), sgX g ++ dy)) C hW (mxr hlr) (cel_list hlr) rfl) ⟨rfl, rfl, Nat.le_of_ble_eq_true rfl, Nat.le_of_ble_eq_true rfl⟩ rfl hl.1 rfl (Nat.le_of_ble_eq_true rfl) dJx4a65c_get_915e3_11 ⟨Nat.le_of_ble_eq_true rfl, Nat.le_of_ble_eq_true rfl⟩) (fun q2 u2 H locs hp2 hW => ?_)
  have hq2 : (q2 = some (elt E P r a0.toNatClampNeg)) := hp2
  clear hp2
  have hW : WB g A s.heap H locs (J, L, I, P, E, N) (sgX g ++ dy) := hW
  subst hq2
  obtain ⟨o2, ho2⟩ : ∃ z : Nat, z = elt E P r a0.toNatClampNeg := ⟨_, rfl⟩
  refine lv_asv (v' := .ref o2) (by rw [ho2]; rfl) ?_
  exact end_q (v := some o2) C hr (Or.inl ⟨_, rfl⟩) hlocks () hW ((by simp only [*])) dJx4a65c_get_915e3_14
