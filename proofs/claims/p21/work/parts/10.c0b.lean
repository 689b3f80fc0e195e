/-- the list's places hold different objects -/
def INJ (E : Nat → Option Nat) (P : Nat → Nat → Nat → Option Nat) (l : Nat) (n : Int) : Prop := ∀ j k : Nat, (j : Int) < n → (k : Int) < n → elt E P l j = elt E P l k → j = k
/-- a field of the list's objects is a row of the reference's -/
def FLD (I : Nat → Nat → Nat → Int32) (E : Nat → Option Nat) (P : Nat → Nat → Nat → Option Nat) (J2 : Nat → Int32) (l ro f : Nat) (n : Int) : Prop := ∀ k : Nat, (k : Int) < n → I ro f (elt E P l k) = J2 k
def ZR (J2 : Nat → Int32) (n : Int) : Prop := ∀ k : Nat, n ≤ (k : Int) → J2 k = 0
section FLDS
variable {I I' : Nat → Nat → Nat → Int32} {E E' : Nat → Option Nat} {P P' : Nat → Nat → Nat → Option Nat} {J2 J2' : Nat → Int32} {l ro f : Nat} {n n' : Int} {dy : List (Nat × Nat)}
theorem inj_same (hn : n' = n) (he : ∀ k : Nat, (k : Int) < n → elt E' P' l k = elt E P l k) (h : INJ E P l n) : INJ E' P' l n' := by
  subst hn
  intro j k hj hk e
  rw [he j hj, he k hk] at e
  exact h j k hj hk e
theorem inj_new {m : Nat} (hm : (m : Int) = n) (hn : n' = n + 1) (he : ∀ k : Nat, (k : Int) < n → elt E' P' l k = elt E P l k) (hf : ∀ x ∈ dy, x.2 ≠ elt E' P' l m) (hd : ∀ k : Nat, (k : Int) < n → (ro, elt E P l k) ∈ dy) (h : INJ E P l n) : INJ E' P' l n' := by
  intro j k hj hk e
  by_cases h1 : (j : Int) < n
  · by_cases h2 : (k : Int) < n
    · rw [he j h1, he k h2] at e
      exact h j k h1 h2 e
    · have hkm : k = m := by omega
      rw [he j h1, hkm] at e
      exact absurd e (hf _ (hd j h1))
  · have hjm : j = m := by omega
    by_cases h2 : (k : Int) < n
    · rw [he k h2, hjm] at e
      exact absurd e.symm (hf _ (hd k h2))
    · omega
theorem fld_same (hn : n' = n) (he : ∀ k : Nat, (k : Int) < n → elt E' P' l k = elt E P l k) (hI : I' ro f = I ro f) (h : FLD I E P J2 l ro f n) : FLD I' E' P' J2 l ro f n' := by
  subst hn
  intro k hk
  rw [he k hk, hI]; exact h k hk
theorem fld_new {m : Nat} (hm : (m : Int) = n) (hn : n' = n + 1) (he : ∀ k : Nat, (k : Int) < n → elt E' P' l k = elt E P l k) (hk : ∀ a : Nat, (ro, a) ∈ dy → I' ro f a = I ro f a) (hz : I' ro f (elt E' P' l m) = 0) (hd : ∀ k : Nat, (k : Int) < n → (ro, elt E P l k) ∈ dy) (hZ : ZR J2 n) (h : FLD I E P J2 l ro f n) : FLD I' E' P' J2 l ro f n' := by
  intro k hk2
  by_cases h1 : (k : Int) < n
  · rw [he k h1, hk _ (hd k h1)]; exact h k h1
  · have e : k = m := by omega
    rw [e, hz, hZ m (by omega)]
theorem fld_set {R : Nat} {J : Nat → Nat → Int32} {a : Nat} {v : Int32} (hi : INJ E P l n) (ha : (a : Int) < n) (hI : ∀ b : Nat, b ≠ elt E P l a → I' ro f b = I ro f b) (hv : I' ro f (elt E P l a) = v) (h : FLD I E P (J R) l ro f n) : FLD I' E P (up2 J R a v R) l ro f n := by
  intro k hk
  by_cases e : k = a
  · subst e; rw [hv, up2_s]
  · rw [up2_f _ _ _ e, hI _ (fun q => e (hi k a hk ha q))]; exact h k hk
theorem zr_new (hn : n ≤ n') (h : ZR J2 n) : ZR J2 n' := fun k hk => h k (by omega)
theorem zr_set {R : Nat} {J : Nat → Nat → Int32} {a : Nat} {v : Int32} (ha : (a : Int) < n) (h : ZR (J R) n) : ZR (up2 J R a v R) n := fun k hk => by
  rw [up2_f _ _ _ (by omega)]; exact h k hk
theorem fld_J (e : J2' = J2) (h : FLD I E P J2 l ro f n) : FLD I E P J2' l ro f n := by rw [e]; exact h
theorem zr_J (e : J2' = J2) (h : ZR J2 n) : ZR J2' n := by rw [e]; exact h
/-- who could be raised: the class by a field, the reference by a row of numbers -/
def GN (I : Nat → Nat → Nat → Int32) (E : Nat → Option Nat) (P : Nat → Nat → Nat → Option Nat) (J2 : Nat → Int32) (n c : Int) : Prop := ∀ k : Nat, (k : Int) < n → (0 < (I 6 4 (elt E P 20 k)).toInt ↔ ∃ j : Nat, (j : Int) < c ∧ (J2 j).toInt = k)
end FLDS
set_option maxHeartbeats 4000000 in
set_option maxRecDepth 100000 in
theorem c_X11_boost_e (l : Launch) (g : gG) (J : Nat → Nat → Int32) (L : Nat → Nat → Int64) (I : Nat → Nat → Nat → Int32) (P : Nat → Nat → Nat → Option Nat) (E : Nat → Option Nat) (N : Nat → Nat) (dy : List (Nat × Nat)) (sz : Nat) (a0 : Int32) (a1 : Int32) (hwf : WXF g J P E N dy) : Met l yX11_boost (WS yX11_boost cX11_boost 5 (some .int)) (RM (5) 0 0) (PC g [.ref (g.2.2.1 12), .int a0, .int a1] ((J, L, I, P, E, N), sgX g ++ dy) sz) (va_Qi (fun (r : Int32) (u : (Nat → Nat → Int32) × (Nat → Nat → Nat → Int32)) => ((r.toInt = (-1) ∧ (¬ (0 ≤ a0.toInt ∧ a0.toInt < (J 20 2).toInt)) ∧ u.2 6 3 = I 6 3) ∨ (r.toInt = (-4) ∧ (0 ≤ a0.toInt ∧ a0.toInt < (J 20 2).toInt ∧ a1.toInt < 0) ∧ u.2 6 3 = I 6 3) ∨ (r.toInt = (-6) ∧ (0 ≤ a0.toInt ∧ a0.toInt < (J 20 2).toInt ∧ 99 < a1.toInt) ∧ u.2 6 3 = I 6 3) ∨ (r = I 6 3 (elt E P 20 a0.toNatClampNeg) ∧ (0 ≤ a0.toInt ∧ a0.toInt < (J 20 2).toInt ∧ 0 ≤ a1.toInt ∧ a1.toInt ≤ 99) ∧ (∀ b : Nat, b ≠ elt E P 20 a0.toNatClampNeg → u.2 6 3 b = I 6 3 b) ∧ u.2 6 3 (elt E P 20 a0.toNatClampNeg) = a1))) (fun u t => at_ g (FR g ((J, L, I, P, E, N), sgX g ++ dy) sz) (((hv J [42] [] u.1), L, (hv I [] [(6, 3)] u.2), P, E, N), sgX g ++ dy) t) (FR g ((J, L, I, P, E, N), sgX g ++ dy) sz)) 0 0 (FR g ((J, L, I, P, E, N), sgX g ++ dy) sz) := by
  refine ent (by decide +kernel) (Nat.le_of_ble_eq_true rfl) ?_
  intro p e s m below meth c ls hsz C hW hr hlocks hname hl
  generalize FR g ((J, L, I, P, E, N), sgX g ++ dy) sz = A at C hW ⊢
  have hx := C.1.1
  have hb := C.1.2.1
  have hts := C.1.2.2.2.2
  have hl : lv_has ls 5 [(0, .ref (g.2.2.1 12)), (1, .int a0), (2, .int a1)] := hl
  obtain ⟨H, hH⟩ : ∃ H : Heap, H = s.heap := ⟨_, rfl⟩
  obtain ⟨locs, hlocs⟩ : ∃ q : List Loc, q = [] := ⟨_, rfl⟩
  have hW : WB g A s.heap H locs (J, L, I, P, E, N) (sgX g ++ dy) := by rw [hH, hlocs]; exact hW
  refine start_ hH hlocs ?_
  refine lv_aload_n hx hb dX11_boost_0 rfl (lv_at hl 0 rfl) ?_
  refine rg_12_0 C hW (mx_ rfl) tw_364 dX11_boost_1 ?_
  refine lv_iload_n hx hb dX11_boost_4 rfl (lv_at hl 1 rfl) ?_
  refine cq_ C hW (runV (x := (g.2.2.1 4)) (As := [.int a0]) (rest := []) (T := ((J, L, I, P, E, N), sgX g ++ dy)) C hW (c_X3_nodeOf l g J L I P E N dy H.size a0 hwf) mi_X3_nodeOf tw_463 (recv_ (T := ((J, L, I, P, E, N), sgX g ++ dy)) C hW (mx_ rfl) rfl rfl) ⟨rfl, rfl, Nat.le_of_ble_eq_true rfl, Nat.le_of_ble_eq_true rfl⟩ rfl hl.1 rfl (Nat.le_of_ble_eq_true rfl) dX11_boost_5 ⟨Nat.le_of_ble_eq_true rfl, Nat.le_of_ble_eq_true rfl⟩) (fun q1 u1 H locs hp1 hW => ?_)
  have hq1 : ((q1 = none ∧ (¬ (0 ≤ a0.toInt ∧ a0.toInt < (J 20 2).toInt))) ∨ (q1 = some (elt E P 20 a0.toNatClampNeg) ∧ (0 ≤ a0.toInt ∧ a0.toInt < (J 20 2).toInt))) := hp1
  clear hp1
  have hW : WB g A s.heap H locs (J, L, I, P, E, N) (sgX g ++ dy) := hW
  rcases hq1 with ⟨rfl, hn1⟩ | ⟨rfl, hs1⟩
  · refine lv_asv (v' := .null) rfl ?_
    refine lv_astore_nN (lv' := [(3, .null), (0, .ref (g.2.2.1 12)), (1, .int a0), (2, .int a1)]) hx hb dX11_boost_8 rfl hl (by decide) rfl (fun ls hl => ?_)
    refine lv_aload_nN hx hb dX11_boost_9 rfl (lv_at hl 0 rfl) ?_
    refine lv_ifnonnullN hx hb dX11_boost_10 ?_
    refine lv_aload_n hx hb dX11_boost_13 rfl (lv_at hl 1 rfl) ?_
    refine lv_iconst (v := (-1)) hx hb dX11_boost_14 (by decide) ?_
    refine ci_ C hW (runV (x := (g.2.2.1 12)) (As := [.int (-1)]) (rest := []) (T := ((J, L, I, P, E, N), sgX g ++ dy)) C hW (c_X11_refuse l g J L I P E N dy H.size (-1) hwf) mi_X11_refuse tw_411 (recv_ (T := ((J, L, I, P, E, N), sgX g ++ dy)) C hW (mx_ rfl) rfl rfl) ⟨rfl, rfl, Nat.le_of_ble_eq_true rfl, Nat.le_of_ble_eq_true rfl⟩ rfl hl.1 rfl (Nat.le_of_ble_eq_true rfl) dX11_boost_15 ⟨Nat.le_of_ble_eq_true rfl, Nat.le_of_ble_eq_true rfl⟩) (fun r2 u2 H locs hp2 hW => ?_)
    have hc2 : ((r2 = (-1))) := hp2
    clear hp2
    have hr2 : r2.toInt = (-1) := by rw [hc2]; exact kn1
    have hW : WB g A s.heap H locs ((hv J [42] [] u2), L, I, P, E, N) (sgX g ++ dy) := hW
    have hWr : WB g A s.heap H locs ((hv J [42] [] (hv J [42] [] u2)), L, (hv I [] [(6, 3)] I), P, E, N) (sgX g ++ dy) := by
      rw [← ag_hvE (J := J) (R := [42]) (F := []) (ag_hv rfl rfl ag_rf)]
      rw [← ag_hvE (J := I) (R := []) (F := [(6, 3)]) ag_rf]
      exact hW
    exact end_i C hr hlocks ((hv J [42] [] u2), I) hWr (by first | exact Or.inl ⟨by omega, by omega, show I 6 3 = I 6 3 from by first | rfl | assumption⟩ | exact Or.inr (Or.inl ⟨by omega, by omega, show I 6 3 = I 6 3 from by first | rfl | assumption⟩) | exact Or.inr (Or.inr (Or.inl ⟨by omega, by omega, show I 6 3 = I 6 3 from by first | rfl | assumption⟩)) | exact Or.inr (Or.inr (Or.inr (⟨by first | rfl | (rw [← ho1]; assumption) | assumption, by omega, show (∀ b : Nat, b ≠ elt E P 20 a0.toNatClampNeg → I 6 3 b = I 6 3 b) from by first | rfl | (rw [← ho1]; intro b hb; exact up3_a _ _ _ _ hb _ _) | (rw [← ho1]; exact up3_s _ _ _ _ _), show I 6 3 (elt E P 20 a0.toNatClampNeg) = a1 from by first | rfl | (rw [← ho1]; intro b hb; exact up3_a _ _ _ _ hb _ _) | (rw [← ho1]; exact up3_s _ _ _ _ _)⟩)))) dX11_boost_18
  · skip
    obtain ⟨o1, ho1⟩ : ∃ z : Nat, z = elt E P 20 a0.toNatClampNeg := ⟨_, rfl⟩
    have hm1 : (6, o1) ∈ dy := by rw [ho1]; exact (lw_mem (er := 6) hwf.1.1 (show (a0.toNatClampNeg : Int) < (J 20 2).toInt from by have := tcl a0; omega))
    refine lv_asv (v' := .ref o1) (by rw [ho1]; rfl) ?_
    refine lv_astore_n (lv' := [(3, .ref o1), (0, .ref (g.2.2.1 12)), (1, .int a0), (2, .int a1)]) hx hb dX11_boost_8 rfl hl (by decide) rfl (fun ls hl => ?_)
    refine lv_aload_n hx hb dX11_boost_9 rfl (lv_at hl 0 rfl) ?_
    refine lv_ifnonnull (tgt := 19) hx hb dX11_boost_10 (by decide) ?_
    refine lv_iload_n hx hb dX11_boost_19 rfl (lv_at hl 3 rfl) ?_
    refine lv_if_ge (tgt := 30) hx hb dX11_boost_20 (by decide) (fun c3 => ?_) (fun c3 => ?_)
    · have c3 : 0 ≤ a1.toInt := tle kp0 rfl c3
      refine lv_iload_n hx hb dX11_boost_30 rfl (lv_at hl 3 rfl) ?_
      refine lv_bipush (v := 99) hx hb dX11_boost_31 (by decide) ?_
      refine lv_icmp_le (tgt := 43) hx hb dX11_boost_33 (by decide) (fun c4 => ?_) (fun c4 => ?_)
      · have c4 : a1.toInt ≤ 99 := tle rfl kp99 c4
        refine lv_aload_n hx hb dX11_boost_43 rfl (lv_at hl 0 rfl) ?_
        refine rg_6_3 C hW (List.mem_append_right _ hm1) tw_143 dX11_boost_44 ?_
        refine lv_topi (fun x5 (e5 : x5 = I 6 3 o1) => ?_)
        have t5 : x5.toInt = (I 6 3 o1).toInt := by rw [e5]
        refine lv_istore (lv' := [(4, .int x5), (3, .ref o1), (0, .ref (g.2.2.1 12)), (1, .int a0), (2, .int a1)]) hx hb dX11_boost_47 hl (by decide) rfl (fun ls hl => ?_)
        refine lv_aload_n hx hb dX11_boost_49 rfl (lv_at hl 1 rfl) ?_
        refine lv_iload_n hx hb dX11_boost_50 rfl (lv_at hl 4 rfl) ?_
        refine rp_6_3 C hW (List.mem_append_right _ hm1) tw_143 dX11_boost_51 (fun H locs hW => ?_)
        refine lv_iload hx hb dX11_boost_54 (lv_at hl 0 rfl) ?_
        have hWr : WB g A s.heap H locs ((hv J [42] [] J), L, (hv I [] [(6, 3)] (up3 I 6 3 o1 a1)), P, E, N) (sgX g ++ dy) := by
          rw [← ag_hvE (J := J) (R := [42]) (F := []) ag_rf]
          rw [← ag_hvE (J := I) (R := []) (F := [(6, 3)]) (ag_up3 (Or.inr rfl) ag_rf)]
          exact hW
        exact end_i C hr hlocks (J, (up3 I 6 3 o1 a1)) hWr (by first | exact Or.inl ⟨by omega, by omega, show (up3 I 6 3 o1 a1) 6 3 = I 6 3 from by first | rfl | assumption⟩ | exact Or.inr (Or.inl ⟨by omega, by omega, show (up3 I 6 3 o1 a1) 6 3 = I 6 3 from by first | rfl | assumption⟩) | exact Or.inr (Or.inr (Or.inl ⟨by omega, by omega, show (up3 I 6 3 o1 a1) 6 3 = I 6 3 from by first | rfl | assumption⟩)) | exact Or.inr (Or.inr (Or.inr (⟨by first | rfl | (rw [← ho1]; assumption) | assumption, by omega, show (∀ b : Nat, b ≠ elt E P 20 a0.toNatClampNeg → (up3 I 6 3 o1 a1) 6 3 b = I 6 3 b) from by first | rfl | (rw [← ho1]; intro b hb; exact up3_a _ _ _ _ hb _ _) | (rw [← ho1]; exact up3_s _ _ _ _ _), show (up3 I 6 3 o1 a1) 6 3 (elt E P 20 a0.toNatClampNeg) = a1 from by first | rfl | (rw [← ho1]; intro b hb; exact up3_a _ _ _ _ hb _ _) | (rw [← ho1]; exact up3_s _ _ _ _ _)⟩)))) dX11_boost_56
      · have c4 : 99 < a1.toInt := tnle rfl kp99 c4
        refine lv_aload_n hx hb dX11_boost_36 rfl (lv_at hl 1 rfl) ?_
        refine lv_bipush (v := (-6)) hx hb dX11_boost_37 (by decide) ?_
        refine ci_ C hW (runV (x := (g.2.2.1 12)) (As := [.int (-6)]) (rest := []) (T := ((J, L, I, P, E, N), sgX g ++ dy)) C hW (c_X11_refuse l g J L I P E N dy H.size (-6) hwf) mi_X11_refuse tw_411 (recv_ (T := ((J, L, I, P, E, N), sgX g ++ dy)) C hW (mx_ rfl) rfl rfl) ⟨rfl, rfl, Nat.le_of_ble_eq_true rfl, Nat.le_of_ble_eq_true rfl⟩ rfl hl.1 rfl (Nat.le_of_ble_eq_true rfl) dX11_boost_39 ⟨Nat.le_of_ble_eq_true rfl, Nat.le_of_ble_eq_true rfl⟩) (fun r6 u6 H locs hp6 hW => ?_)
        have hc6 : ((r6 = (-6))) := hp6
        clear hp6
        have hr6 : r6.toInt = (-6) := by rw [hc6]; exact kn6
        have hW : WB g A s.heap H locs ((hv J [42] [] u6), L, I, P, E, N) (sgX g ++ dy) := hW
        have hWr : WB g A s.heap H locs ((hv J [42] [] (hv J [42] [] u6)), L, (hv I [] [(6, 3)] I), P, E, N) (sgX g ++ dy) := by
          rw [← ag_hvE (J := J) (R := [42]) (F := []) (ag_hv rfl rfl ag_rf)]
          rw [← ag_hvE (J := I) (R := []) (F := [(6, 3)]) ag_rf]
          exact hW
        exact end_i C hr hlocks ((hv J [42] [] u6), I) hWr (by first | exact Or.inl ⟨by omega, by omega, show I 6 3 = I 6 3 from by first | rfl | assumption⟩ | exact Or.inr (Or.inl ⟨by omega, by omega, show I 6 3 = I 6 3 from by first | rfl | assumption⟩) | exact Or.inr (Or.inr (Or.inl ⟨by omega, by omega, show I 6 3 = I 6 3 from by first | rfl | assumption⟩)) | exact Or.inr (Or.inr (Or.inr (⟨by first | rfl | (rw [← ho1]; assumption) | assumption, by omega, show (∀ b : Nat, b ≠ elt E P 20 a0.toNatClampNeg → I 6 3 b = I 6 3 b) from by first | rfl | (rw [← ho1]; intro b hb; exact up3_a _ _ _ _ hb _ _) | (rw [← ho1]; exact up3_s _ _ _ _ _), show I 6 3 (elt E P 20 a0.toNatClampNeg) = a1 from by first | rfl | (rw [← ho1]; intro b hb; exact up3_a _ _ _ _ hb _ _) | (rw [← ho1]; exact up3_s _ _ _ _ _)⟩)))) dX11_boost_42
    · have c3 : a1.toInt < 0 := tnle kp0 rfl c3
      refine lv_aload_n hx hb dX11_boost_23 rfl (lv_at hl 1 rfl) ?_
      refine lv_bipush (v := (-4)) hx hb dX11_boost_24 (by decide) ?_
      refine ci_ C hW (runV (x := (g.2.2.1 12)) (As := [.int (-4)]) (rest := []) (T := ((J, L, I, P, E, N), sgX g ++ dy)) C hW (c_X11_refuse l g J L I P E N dy H.size (-4) hwf) mi_X11_refuse tw_411 (recv_ (T := ((J, L, I, P, E, N), sgX g ++ dy)) C hW (mx_ rfl) rfl rfl) ⟨rfl, rfl, Nat.le_of_ble_eq_true rfl, Nat.le_of_ble_eq_true rfl⟩ rfl hl.1 rfl (Nat.le_of_ble_eq_true rfl) dX11_boost_26 ⟨Nat.le_of_ble_eq_true rfl, Nat.le_of_ble_eq_true rfl⟩) (fun r7 u7 H locs hp7 hW => ?_)
      have hc7 : ((r7 = (-4))) := hp7
      clear hp7
      have hr7 : r7.toInt = (-4) := by rw [hc7]; exact kn4
      have hW : WB g A s.heap H locs ((hv J [42] [] u7), L, I, P, E, N) (sgX g ++ dy) := hW
      have hWr : WB g A s.heap H locs ((hv J [42] [] (hv J [42] [] u7)), L, (hv I [] [(6, 3)] I), P, E, N) (sgX g ++ dy) := by
        rw [← ag_hvE (J := J) (R := [42]) (F := []) (ag_hv rfl rfl ag_rf)]
        rw [← ag_hvE (J := I) (R := []) (F := [(6, 3)]) ag_rf]
        exact hW
      exact end_i C hr hlocks ((hv J [42] [] u7), I) hWr (by first | exact Or.inl ⟨by omega, by omega, show I 6 3 = I 6 3 from by first | rfl | assumption⟩ | exact Or.inr (Or.inl ⟨by omega, by omega, show I 6 3 = I 6 3 from by first | rfl | assumption⟩) | exact Or.inr (Or.inr (Or.inl ⟨by omega, by omega, show I 6 3 = I 6 3 from by first | rfl | assumption⟩)) | exact Or.inr (Or.inr (Or.inr (⟨by first | rfl | (rw [← ho1]; assumption) | assumption, by omega, show (∀ b : Nat, b ≠ elt E P 20 a0.toNatClampNeg → I 6 3 b = I 6 3 b) from by first | rfl | (rw [← ho1]; intro b hb; exact up3_a _ _ _ _ hb _ _) | (rw [← ho1]; exact up3_s _ _ _ _ _), show I 6 3 (elt E P 20 a0.toNatClampNeg) = a1 from by first | rfl | (rw [← ho1]; intro b hb; exact up3_a _ _ _ _ hb _ _) | (rw [← ho1]; exact up3_s _ _ _ _ _)⟩)))) dX11_boost_29

set_option maxHeartbeats 4000000 in
set_option maxRecDepth 100000 in
theorem c_X11_complain_e (l : Launch) (g : gG) (J : Nat → Nat → Int32) (L : Nat → Nat → Int64) (I : Nat → Nat → Nat → Int32) (P : Nat → Nat → Nat → Option Nat) (E : Nat → Option Nat) (N : Nat → Nat) (dy : List (Nat × Nat)) (sz : Nat) (a0 : Int32) (a1 : Int32) (hwf : WXF g J P E N dy) (hb01 : a1 = 0 ∨ a1 = 1) : Met l yX11_complain (WS yX11_complain cX11_complain 4 (some .int)) (RM (5) 0 0) (PC g [.ref (g.2.2.1 12), .int a0, .int a1] ((J, L, I, P, E, N), sgX g ++ dy) sz) (va_Qi (fun (r : Int32) (u : (Nat → Nat → Int32) × (Nat → Nat → Nat → Int32)) => ((r.toInt = (-1) ∧ (¬ (0 ≤ a0.toInt ∧ a0.toInt < (J 22 2).toInt)) ∧ u.2 2 4 = I 2 4) ∨ (r.toInt = 0 ∧ (0 ≤ a0.toInt ∧ a0.toInt < (J 22 2).toInt) ∧ (I 2 4 (elt E P 22 a0.toNatClampNeg)).toInt = a1.toInt ∧ u.2 2 4 = I 2 4) ∨ (r.toInt = 1 ∧ (0 ≤ a0.toInt ∧ a0.toInt < (J 22 2).toInt) ∧ ¬ (I 2 4 (elt E P 22 a0.toNatClampNeg)).toInt = a1.toInt ∧ (∀ b : Nat, b ≠ elt E P 22 a0.toNatClampNeg → u.2 2 4 b = I 2 4 b) ∧ u.2 2 4 (elt E P 22 a0.toNatClampNeg) = a1))) (fun u t => at_ g (FR g ((J, L, I, P, E, N), sgX g ++ dy) sz) (((hv J [42] [] u.1), L, (hv I [] [(2, 4)] u.2), P, E, N), sgX g ++ dy) t) (FR g ((J, L, I, P, E, N), sgX g ++ dy) sz)) 0 0 (FR g ((J, L, I, P, E, N), sgX g ++ dy) sz) := by
  refine ent (by decide +kernel) (Nat.le_of_ble_eq_true rfl) ?_
  intro p e s m below meth c ls hsz C hW hr hlocks hname hl
  generalize FR g ((J, L, I, P, E, N), sgX g ++ dy) sz = A at C hW ⊢
  have hx := C.1.1
  have hb := C.1.2.1
  have hts := C.1.2.2.2.2
  have hl : lv_has ls 4 [(0, .ref (g.2.2.1 12)), (1, .int a0), (2, .int a1)] := hl
  obtain ⟨H, hH⟩ : ∃ H : Heap, H = s.heap := ⟨_, rfl⟩
  obtain ⟨locs, hlocs⟩ : ∃ q : List Loc, q = [] := ⟨_, rfl⟩
  have hW : WB g A s.heap H locs (J, L, I, P, E, N) (sgX g ++ dy) := by rw [hH, hlocs]; exact hW
  refine start_ hH hlocs ?_
  refine lv_aload_n hx hb dX11_complain_0 rfl (lv_at hl 0 rfl) ?_
  refine rg_12_0 C hW (mx_ rfl) tw_364 dX11_complain_1 ?_
  refine lv_iload_n hx hb dX11_complain_4 rfl (lv_at hl 1 rfl) ?_
  refine cq_ C hW (runV (x := (g.2.2.1 4)) (As := [.int a0]) (rest := []) (T := ((J, L, I, P, E, N), sgX g ++ dy)) C hW (c_X3_homeOf l g J L I P E N dy H.size a0 hwf) mi_X3_homeOf tw_576 (recv_ (T := ((J, L, I, P, E, N), sgX g ++ dy)) C hW (mx_ rfl) rfl rfl) ⟨rfl, rfl, Nat.le_of_ble_eq_true rfl, Nat.le_of_ble_eq_true rfl⟩ rfl hl.1 rfl (Nat.le_of_ble_eq_true rfl) dX11_complain_5 ⟨Nat.le_of_ble_eq_true rfl, Nat.le_of_ble_eq_true rfl⟩) (fun q1 u1 H locs hp1 hW => ?_)
  have hq1 : ((q1 = none ∧ (¬ (0 ≤ a0.toInt ∧ a0.toInt < (J 22 2).toInt))) ∨ (q1 = some (elt E P 22 a0.toNatClampNeg) ∧ (0 ≤ a0.toInt ∧ a0.toInt < (J 22 2).toInt))) := hp1
  clear hp1
  have hW : WB g A s.heap H locs (J, L, I, P, E, N) (sgX g ++ dy) := hW
  rcases hq1 with ⟨rfl, hn1⟩ | ⟨rfl, hs1⟩
  · refine lv_asv (v' := .null) rfl ?_
    refine lv_astore_nN (lv' := [(3, .null), (0, .ref (g.2.2.1 12)), (1, .int a0), (2, .int a1)]) hx hb dX11_complain_8 rfl hl (by decide) rfl (fun ls hl => ?_)
    refine lv_aload_nN hx hb dX11_complain_9 rfl (lv_at hl 0 rfl) ?_
    refine lv_ifnonnullN hx hb dX11_complain_10 ?_
    refine lv_aload_n hx hb dX11_complain_13 rfl (lv_at hl 1 rfl) ?_
    refine lv_iconst (v := (-1)) hx hb dX11_complain_14 (by decide) ?_
    refine ci_ C hW (runV (x := (g.2.2.1 12)) (As := [.int (-1)]) (rest := []) (T := ((J, L, I, P, E, N), sgX g ++ dy)) C hW (c_X11_refuse l g J L I P E N dy H.size (-1) hwf) mi_X11_refuse tw_411 (recv_ (T := ((J, L, I, P, E, N), sgX g ++ dy)) C hW (mx_ rfl) rfl rfl) ⟨rfl, rfl, Nat.le_of_ble_eq_true rfl, Nat.le_of_ble_eq_true rfl⟩ rfl hl.1 rfl (Nat.le_of_ble_eq_true rfl) dX11_complain_15 ⟨Nat.le_of_ble_eq_true rfl, Nat.le_of_ble_eq_true rfl⟩) (fun r2 u2 H locs hp2 hW => ?_)
    have hc2 : ((r2 = (-1))) := hp2
    clear hp2
    have hr2 : r2.toInt = (-1) := by rw [hc2]; exact kn1
    have hW : WB g A s.heap H locs ((hv J [42] [] u2), L, I, P, E, N) (sgX g ++ dy) := hW
    have hWr : WB g A s.heap H locs ((hv J [42] [] (hv J [42] [] u2)), L, (hv I [] [(2, 4)] I), P, E, N) (sgX g ++ dy) := by
      rw [← ag_hvE (J := J) (R := [42]) (F := []) (ag_hv rfl rfl ag_rf)]
      rw [← ag_hvE (J := I) (R := []) (F := [(2, 4)]) ag_rf]
      exact hW
    exact end_i C hr hlocks ((hv J [42] [] u2), I) hWr (by first | exact Or.inl ⟨by omega, by omega, show I 2 4 = I 2 4 from by first | rfl | assumption⟩ | exact Or.inr (Or.inl ⟨by omega, by omega, show (I 2 4 (elt E P 22 a0.toNatClampNeg)).toInt = a1.toInt from by first | rfl | (rw [← ho1]; omega), show I 2 4 = I 2 4 from by first | rfl | (rw [← ho1]; omega)⟩) | exact Or.inr (Or.inr (⟨by omega, by omega, show ¬ (I 2 4 (elt E P 22 a0.toNatClampNeg)).toInt = a1.toInt from by first | (rw [← ho1]; omega) | rfl | (rw [← ho1]; intro b hb; exact up3_a _ _ _ _ hb _ _) | (rw [← ho1]; exact up3_s _ _ _ _ _), show (∀ b : Nat, b ≠ elt E P 22 a0.toNatClampNeg → I 2 4 b = I 2 4 b) from by first | (rw [← ho1]; omega) | rfl | (rw [← ho1]; intro b hb; exact up3_a _ _ _ _ hb _ _) | (rw [← ho1]; exact up3_s _ _ _ _ _), show I 2 4 (elt E P 22 a0.toNatClampNeg) = a1 from by first | (rw [← ho1]; omega) | rfl | (rw [← ho1]; intro b hb; exact up3_a _ _ _ _ hb _ _) | (rw [← ho1]; exact up3_s _ _ _ _ _)⟩))) dX11_complain_18
  · skip
    obtain ⟨o1, ho1⟩ : ∃ z : Nat, z = elt E P 22 a0.toNatClampNeg := ⟨_, rfl⟩
    have hm1 : (2, o1) ∈ dy := by rw [ho1]; exact (lw_mem (er := 2) hwf.1.2.2.1 (show (a0.toNatClampNeg : Int) < (J 22 2).toInt from by have := tcl a0; omega))
    refine lv_asv (v' := .ref o1) (by rw [ho1]; rfl) ?_
    refine lv_astore_n (lv' := [(3, .ref o1), (0, .ref (g.2.2.1 12)), (1, .int a0), (2, .int a1)]) hx hb dX11_complain_8 rfl hl (by decide) rfl (fun ls hl => ?_)
    refine lv_aload_n hx hb dX11_complain_9 rfl (lv_at hl 0 rfl) ?_
    refine lv_ifnonnull (tgt := 19) hx hb dX11_complain_10 (by decide) ?_
    refine lv_aload_n hx hb dX11_complain_19 rfl (lv_at hl 0 rfl) ?_
    refine rg_2_4 C hW (List.mem_append_right _ hm1) tw_556 dX11_complain_20 ?_
    refine lv_topi (fun x3 (e3 : x3 = I 2 4 o1) => ?_)
    have t3 : x3.toInt = (I 2 4 o1).toInt := by rw [e3]
    refine lv_iload_n hx hb dX11_complain_23 rfl (lv_at hl 3 rfl) ?_
    refine lv_icmp_ne (tgt := 29) hx hb dX11_complain_24 (by decide) (fun c4 => ?_) (fun c4 => ?_)
    · have c4 : ¬ x3.toInt = a1.toInt := tne rfl rfl c4
      refine lv_aload_n hx hb dX11_complain_29 rfl (lv_at hl 0 rfl) ?_
      refine lv_iload_n hx hb dX11_complain_30 rfl (lv_at hl 3 rfl) ?_
      refine rp_2_4 C hW (List.mem_append_right _ hm1) tw_556 (hb01) dX11_complain_31 (fun H locs hW => ?_)
      refine lv_iconst (v := 1) hx hb dX11_complain_34 (by decide) ?_
      have hWr : WB g A s.heap H locs ((hv J [42] [] J), L, (hv I [] [(2, 4)] (up3 I 2 4 o1 a1)), P, E, N) (sgX g ++ dy) := by
        rw [← ag_hvE (J := J) (R := [42]) (F := []) ag_rf]
        rw [← ag_hvE (J := I) (R := []) (F := [(2, 4)]) (ag_up3 (Or.inr rfl) ag_rf)]
        exact hW
      exact end_i C hr hlocks (J, (up3 I 2 4 o1 a1)) hWr (by first | exact Or.inr (Or.inr (⟨by decide, by omega, show ¬ (I 2 4 (elt E P 22 a0.toNatClampNeg)).toInt = a1.toInt from by first | (rw [← ho1]; omega) | rfl | (rw [← ho1]; intro b hb; exact up3_a _ _ _ _ hb _ _) | (rw [← ho1]; exact up3_s _ _ _ _ _), show (∀ b : Nat, b ≠ elt E P 22 a0.toNatClampNeg → (up3 I 2 4 o1 a1) 2 4 b = I 2 4 b) from by first | (rw [← ho1]; omega) | rfl | (rw [← ho1]; intro b hb; exact up3_a _ _ _ _ hb _ _) | (rw [← ho1]; exact up3_s _ _ _ _ _), show (up3 I 2 4 o1 a1) 2 4 (elt E P 22 a0.toNatClampNeg) = a1 from by first | (rw [← ho1]; omega) | rfl | (rw [← ho1]; intro b hb; exact up3_a _ _ _ _ hb _ _) | (rw [← ho1]; exact up3_s _ _ _ _ _)⟩))) dX11_complain_35
    · have c4 : x3.toInt = a1.toInt := teq rfl rfl c4
      refine lv_iconst (v := 0) hx hb dX11_complain_27 (by decide) ?_
      have hWr : WB g A s.heap H locs ((hv J [42] [] J), L, (hv I [] [(2, 4)] I), P, E, N) (sgX g ++ dy) := by
        rw [← ag_hvE (J := J) (R := [42]) (F := []) ag_rf]
        rw [← ag_hvE (J := I) (R := []) (F := [(2, 4)]) ag_rf]
        exact hW
      exact end_i C hr hlocks (J, I) hWr (by first | exact Or.inr (Or.inl ⟨by decide, by omega, show (I 2 4 (elt E P 22 a0.toNatClampNeg)).toInt = a1.toInt from by first | rfl | (rw [← ho1]; omega), show I 2 4 = I 2 4 from by first | rfl | (rw [← ho1]; omega)⟩)) dX11_complain_28

set_option maxHeartbeats 4000000 in
set_option maxRecDepth 100000 in
theorem c_X11_sold_e (l : Launch) (g : gG) (J : Nat → Nat → Int32) (L : Nat → Nat → Int64) (I : Nat → Nat → Nat → Int32) (P : Nat → Nat → Nat → Option Nat) (E : Nat → Option Nat) (N : Nat → Nat) (dy : List (Nat × Nat)) (sz : Nat) (a0 : Int32) (a1 : Int32) (hwf : WXF g J P E N dy) (hac : 0 ≤ (J 12 10).toInt) : Met l yX11_sold (WS yX11_sold cX11_sold 4 (some .int)) (RM (2) 0 0) (PC g [.ref (g.2.2.1 12), .int a0, .int a1] ((J, L, I, P, E, N), sgX g ++ dy) sz) (va_Qi (fun (r : Int32) (u : (Nat → Nat → Int32)) => ((r.toInt = (-4) ∧ (a1.toInt < 0)) ∨ (r.toInt = (-6) ∧ (5 ≤ a1.toInt)) ∨ (r.toInt = (-9) ∧ (0 ≤ a1.toInt ∧ a1.toInt ≤ 4 ∧ (a0.toInt < 0 ∨ 40 ≤ a0.toInt ∨ (J 12 10).toInt ≤ 5 * a0.toInt + a1.toInt ∨ 200 ≤ 5 * a0.toInt + a1.toInt))) ∨ (r = r ∧ (0 ≤ a1.toInt ∧ a1.toInt ≤ 4 ∧ 0 ≤ a0.toInt ∧ a0.toInt ≤ 39 ∧ 5 * a0.toInt + a1.toInt < (J 12 10).toInt ∧ 5 * a0.toInt + a1.toInt < 200))) ∧ (0 ≤ a1.toInt ∧ a1.toInt ≤ 4 ∧ 0 ≤ a0.toInt ∧ a0.toInt ≤ 39 ∧ 5 * a0.toInt + a1.toInt < (J 12 10).toInt ∧ 5 * a0.toInt + a1.toInt < 200 → r = J 40 (5 * a0.toInt + a1.toInt).toNat)) (fun u t => at_ g (FR g ((J, L, I, P, E, N), sgX g ++ dy) sz) (((hv J [42] [] u), L, I, P, E, N), sgX g ++ dy) t) (FR g ((J, L, I, P, E, N), sgX g ++ dy) sz)) 0 0 (FR g ((J, L, I, P, E, N), sgX g ++ dy) sz) := by
  refine ent (by decide +kernel) (Nat.le_of_ble_eq_true rfl) ?_
  intro p e s m below meth c ls hsz C hW hr hlocks hname hl
  generalize FR g ((J, L, I, P, E, N), sgX g ++ dy) sz = A at C hW ⊢
  have hx := C.1.1
  have hb := C.1.2.1
  have hts := C.1.2.2.2.2
  have hl : lv_has ls 4 [(0, .ref (g.2.2.1 12)), (1, .int a0), (2, .int a1)] := hl
  obtain ⟨H, hH⟩ : ∃ H : Heap, H = s.heap := ⟨_, rfl⟩
  obtain ⟨locs, hlocs⟩ : ∃ q : List Loc, q = [] := ⟨_, rfl⟩
  have hW : WB g A s.heap H locs (J, L, I, P, E, N) (sgX g ++ dy) := by rw [hH, hlocs]; exact hW
  refine start_ hH hlocs ?_
  refine lv_iload_n hx hb dX11_sold_0 rfl (lv_at hl 2 rfl) ?_
  refine lv_if_ge (tgt := 11) hx hb dX11_sold_1 (by decide) (fun c1 => ?_) (fun c1 => ?_)
  · have c1 : 0 ≤ a1.toInt := tle kp0 rfl c1
    refine lv_iload_n hx hb dX11_sold_11 rfl (lv_at hl 2 rfl) ?_
    refine lv_iconst (v := 5) hx hb dX11_sold_12 (by decide) ?_
    refine lv_icmp_lt (tgt := 23) hx hb dX11_sold_13 (by decide) (fun c2 => ?_) (fun c2 => ?_)
    · have c2 : a1.toInt < 5 := tlt rfl kp5 c2
      refine lv_iload_n hx hb dX11_sold_23 rfl (lv_at hl 1 rfl) ?_
      refine lv_if_lt (tgt := 33) hx hb dX11_sold_24 (by decide) (fun c3 => ?_) (fun c3 => ?_)
      · have c3 : a0.toInt < 0 := tlt rfl kp0 c3
        refine lv_bipush (v := (-9)) hx hb dX11_sold_33 (by decide) ?_
        have hWr : WB g A s.heap H locs ((hv J [42] [] J), L, I, P, E, N) (sgX g ++ dy) := by
          rw [← ag_hvE (J := J) (R := [42]) (F := []) ag_rf]
          exact hW
        exact end_i C hr hlocks J hWr ⟨by first | exact Or.inr (Or.inr (Or.inl ⟨by decide, by omega⟩)) | exact Or.inr (Or.inr (Or.inr (⟨by first | rfl | assumption, by omega⟩))), show 0 ≤ a1.toInt ∧ a1.toInt ≤ 4 ∧ 0 ≤ a0.toInt ∧ a0.toInt ≤ 39 ∧ 5 * a0.toInt + a1.toInt < (J 12 10).toInt ∧ 5 * a0.toInt + a1.toInt < 200 → (-9) = J 40 (5 * a0.toInt + a1.toInt).toNat from by intro h9; exfalso; omega⟩ dX11_sold_35
      · have c3 : 0 ≤ a0.toInt := tnlt rfl kp0 c3
        refine lv_iload_n hx hb dX11_sold_27 rfl (lv_at hl 1 rfl) ?_
        refine lv_bipush (v := 40) hx hb dX11_sold_28 (by decide) ?_
        refine lv_icmp_lt (tgt := 36) hx hb dX11_sold_30 (by decide) (fun c4 => ?_) (fun c4 => ?_)
        · have c4 : a0.toInt < 40 := tlt rfl kp40 c4
          refine lv_iload_n hx hb dX11_sold_36 rfl (lv_at hl 1 rfl) ?_
          refine lv_iconst (v := 5) hx hb dX11_sold_37 (by decide) ?_
          refine lv_imul hx hb dX11_sold_38 ?_
          refine lv_topi (fun x5 (e5 : x5 = a0 * 5) => ?_)
          try have t5 : x5.toInt = a0.toInt * 5 := tmul e5 rfl kp5 (by omega)
          refine lv_iload_n hx hb dX11_sold_39 rfl (lv_at hl 2 rfl) ?_
          refine lv_iadd hx hb dX11_sold_40 ?_
          refine lv_topi (fun x6 (e6 : x6 = x5 + a1) => ?_)
          try have t6 : x6.toInt = x5.toInt + a1.toInt := tadd e6 rfl rfl (by omega)
          refine lv_istore_n (lv' := [(3, .int x6), (0, .ref (g.2.2.1 12)), (1, .int a0), (2, .int a1)]) hx hb dX11_sold_41 rfl hl (by decide) rfl (fun ls hl => ?_)
          refine lv_iload_n hx hb dX11_sold_42 rfl (lv_at hl 0 rfl) ?_
          refine lv_aload_n hx hb dX11_sold_43 rfl (lv_at hl 1 rfl) ?_
          refine rg_12_10 C hW (mx_ rfl) tw_374 dX11_sold_44 ?_
          refine lv_icmp_ge (tgt := 68) hx hb dX11_sold_47 (by decide) (fun c7 => ?_) (fun c7 => ?_)
          · have c7 : (J 12 10).toInt ≤ x6.toInt := tle rfl rfl c7
            refine lv_bipush (v := (-9)) hx hb dX11_sold_68 (by decide) ?_
            have hWr : WB g A s.heap H locs ((hv J [42] [] J), L, I, P, E, N) (sgX g ++ dy) := by
              rw [← ag_hvE (J := J) (R := [42]) (F := []) ag_rf]
              exact hW
            exact end_i C hr hlocks J hWr ⟨by first | exact Or.inr (Or.inr (Or.inl ⟨by decide, by omega⟩)) | exact Or.inr (Or.inr (Or.inr (⟨by first | rfl | assumption, by omega⟩))), show 0 ≤ a1.toInt ∧ a1.toInt ≤ 4 ∧ 0 ≤ a0.toInt ∧ a0.toInt ≤ 39 ∧ 5 * a0.toInt + a1.toInt < (J 12 10).toInt ∧ 5 * a0.toInt + a1.toInt < 200 → (-9) = J 40 (5 * a0.toInt + a1.toInt).toNat from by intro h9; exfalso; omega⟩ dX11_sold_70
          · have c7 : x6.toInt < (J 12 10).toInt := tnle rfl rfl c7
            refine lv_iload_n hx hb dX11_sold_50 rfl (lv_at hl 0 rfl) ?_
            refine lv_aload_n hx hb dX11_sold_51 rfl (lv_at hl 1 rfl) ?_
            refine rg_12_7 C hW (mx_ rfl) tw_371 dX11_sold_52 ?_
            refine rl_40 C hW (mx_ rfl) dX11_sold_55 ?_
            refine lv_icmp_ge (tgt := 68) hx hb dX11_sold_56 (by decide) (fun c8 => ?_) (fun c8 => ?_)
            · have c8 : 200 ≤ x6.toInt := tle kp200 rfl c8
              refine lv_bipush (v := (-9)) hx hb dX11_sold_68 (by decide) ?_
              have hWr : WB g A s.heap H locs ((hv J [42] [] J), L, I, P, E, N) (sgX g ++ dy) := by
                rw [← ag_hvE (J := J) (R := [42]) (F := []) ag_rf]
                exact hW
              exact end_i C hr hlocks J hWr ⟨by first | exact Or.inr (Or.inr (Or.inl ⟨by decide, by omega⟩)) | exact Or.inr (Or.inr (Or.inr (⟨by first | rfl | assumption, by omega⟩))), show 0 ≤ a1.toInt ∧ a1.toInt ≤ 4 ∧ 0 ≤ a0.toInt ∧ a0.toInt ≤ 39 ∧ 5 * a0.toInt + a1.toInt < (J 12 10).toInt ∧ 5 * a0.toInt + a1.toInt < 200 → (-9) = J 40 (5 * a0.toInt + a1.toInt).toNat from by intro h9; exfalso; omega⟩ dX11_sold_70
            · have c8 : x6.toInt < 200 := tnle kp200 rfl c8
              refine lv_aload_n hx hb dX11_sold_59 rfl (lv_at hl 1 rfl) ?_
              refine rg_12_7 C hW (mx_ rfl) tw_371 dX11_sold_60 ?_
              refine lv_iload_n hx hb dX11_sold_63 rfl (lv_at hl 0 rfl) ?_
              have hin : vp_in x6 200 := tin rfl (by omega)
              refine ra_40 C hW (mx_ rfl) hin dX11_sold_64 ?_
              refine lv_topi (fun x9 (e9 : x9 = J 40 x6.toNatClampNeg) => ?_)
              refine lv_goto (tgt := 70) hx hb dX11_sold_65 (by decide) ?_
              have hWr : WB g A s.heap H locs ((hv J [42] [] J), L, I, P, E, N) (sgX g ++ dy) := by
                rw [← ag_hvE (J := J) (R := [42]) (F := []) ag_rf]
                exact hW
              exact end_i C hr hlocks J hWr ⟨by first | exact Or.inl ⟨by omega, by omega⟩ | exact Or.inr (Or.inl ⟨by omega, by omega⟩) | exact Or.inr (Or.inr (Or.inl ⟨by omega, by omega⟩)) | exact Or.inr (Or.inr (Or.inr (⟨by first | rfl | assumption, by omega⟩))), show 0 ≤ a1.toInt ∧ a1.toInt ≤ 4 ∧ 0 ≤ a0.toInt ∧ a0.toInt ≤ 39 ∧ 5 * a0.toInt + a1.toInt < (J 12 10).toInt ∧ 5 * a0.toInt + a1.toInt < 200 → x9 = J 40 (5 * a0.toInt + a1.toInt).toNat from by intro h9; rw [e9]; congr 1; have h8 := tcl x6; omega⟩ dX11_sold_70
        · have c4 : 40 ≤ a0.toInt := tnlt rfl kp40 c4
          refine lv_bipush (v := (-9)) hx hb dX11_sold_33 (by decide) ?_
          have hWr : WB g A s.heap H locs ((hv J [42] [] J), L, I, P, E, N) (sgX g ++ dy) := by
            rw [← ag_hvE (J := J) (R := [42]) (F := []) ag_rf]
            exact hW
          exact end_i C hr hlocks J hWr ⟨by first | exact Or.inr (Or.inr (Or.inl ⟨by decide, by omega⟩)) | exact Or.inr (Or.inr (Or.inr (⟨by first | rfl | assumption, by omega⟩))), show 0 ≤ a1.toInt ∧ a1.toInt ≤ 4 ∧ 0 ≤ a0.toInt ∧ a0.toInt ≤ 39 ∧ 5 * a0.toInt + a1.toInt < (J 12 10).toInt ∧ 5 * a0.toInt + a1.toInt < 200 → (-9) = J 40 (5 * a0.toInt + a1.toInt).toNat from by intro h9; exfalso; omega⟩ dX11_sold_35
    · have c2 : 5 ≤ a1.toInt := tnlt rfl kp5 c2
      refine lv_aload_n hx hb dX11_sold_16 rfl (lv_at hl 0 rfl) ?_
      refine lv_bipush (v := (-6)) hx hb dX11_sold_17 (by decide) ?_
      refine ci_ C hW (runV (x := (g.2.2.1 12)) (As := [.int (-6)]) (rest := []) (T := ((J, L, I, P, E, N), sgX g ++ dy)) C hW (c_X11_refuse l g J L I P E N dy H.size (-6) hwf) mi_X11_refuse tw_411 (recv_ (T := ((J, L, I, P, E, N), sgX g ++ dy)) C hW (mx_ rfl) rfl rfl) ⟨rfl, rfl, Nat.le_of_ble_eq_true rfl, Nat.le_of_ble_eq_true rfl⟩ rfl hl.1 rfl (Nat.le_of_ble_eq_true rfl) dX11_sold_19 ⟨Nat.le_of_ble_eq_true rfl, Nat.le_of_ble_eq_true rfl⟩) (fun r10 u10 H locs hp10 hW => ?_)
      have hc10 : ((r10 = (-6))) := hp10
      clear hp10
      have hr10 : r10.toInt = (-6) := by rw [hc10]; exact kn6
      have hW : WB g A s.heap H locs ((hv J [42] [] u10), L, I, P, E, N) (sgX g ++ dy) := hW
      have hWr : WB g A s.heap H locs ((hv J [42] [] (hv J [42] [] u10)), L, I, P, E, N) (sgX g ++ dy) := by
        rw [← ag_hvE (J := J) (R := [42]) (F := []) (ag_hv rfl rfl ag_rf)]
        exact hW
      exact end_i C hr hlocks (hv J [42] [] u10) hWr ⟨by first | exact Or.inl ⟨by omega, by omega⟩ | exact Or.inr (Or.inl ⟨by omega, by omega⟩) | exact Or.inr (Or.inr (Or.inl ⟨by omega, by omega⟩)) | exact Or.inr (Or.inr (Or.inr (⟨by first | rfl | assumption, by omega⟩))), show 0 ≤ a1.toInt ∧ a1.toInt ≤ 4 ∧ 0 ≤ a0.toInt ∧ a0.toInt ≤ 39 ∧ 5 * a0.toInt + a1.toInt < (J 12 10).toInt ∧ 5 * a0.toInt + a1.toInt < 200 → r10 = J 40 (5 * a0.toInt + a1.toInt).toNat from by intro h9; exfalso; omega⟩ dX11_sold_22
  · have c1 : a1.toInt < 0 := tnle kp0 rfl c1
    refine lv_aload_n hx hb dX11_sold_4 rfl (lv_at hl 0 rfl) ?_
    refine lv_bipush (v := (-4)) hx hb dX11_sold_5 (by decide) ?_
    refine ci_ C hW (runV (x := (g.2.2.1 12)) (As := [.int (-4)]) (rest := []) (T := ((J, L, I, P, E, N), sgX g ++ dy)) C hW (c_X11_refuse l g J L I P E N dy H.size (-4) hwf) mi_X11_refuse tw_411 (recv_ (T := ((J, L, I, P, E, N), sgX g ++ dy)) C hW (mx_ rfl) rfl rfl) ⟨rfl, rfl, Nat.le_of_ble_eq_true rfl, Nat.le_of_ble_eq_true rfl⟩ rfl hl.1 rfl (Nat.le_of_ble_eq_true rfl) dX11_sold_7 ⟨Nat.le_of_ble_eq_true rfl, Nat.le_of_ble_eq_true rfl⟩) (fun r11 u11 H locs hp11 hW => ?_)
    have hc11 : ((r11 = (-4))) := hp11
    clear hp11
    have hr11 : r11.toInt = (-4) := by rw [hc11]; exact kn4
    have hW : WB g A s.heap H locs ((hv J [42] [] u11), L, I, P, E, N) (sgX g ++ dy) := hW
    have hWr : WB g A s.heap H locs ((hv J [42] [] (hv J [42] [] u11)), L, I, P, E, N) (sgX g ++ dy) := by
      rw [← ag_hvE (J := J) (R := [42]) (F := []) (ag_hv rfl rfl ag_rf)]
      exact hW
    exact end_i C hr hlocks (hv J [42] [] u11) hWr ⟨by first | exact Or.inl ⟨by omega, by omega⟩ | exact Or.inr (Or.inl ⟨by omega, by omega⟩) | exact Or.inr (Or.inr (Or.inl ⟨by omega, by omega⟩)) | exact Or.inr (Or.inr (Or.inr (⟨by first | rfl | assumption, by omega⟩))), show 0 ≤ a1.toInt ∧ a1.toInt ≤ 4 ∧ 0 ≤ a0.toInt ∧ a0.toInt ≤ 39 ∧ 5 * a0.toInt + a1.toInt < (J 12 10).toInt ∧ 5 * a0.toInt + a1.toInt < 200 → r11 = J 40 (5 * a0.toInt + a1.toInt).toNat from by intro h9; exfalso; omega⟩ dX11_sold_10

set_option maxHeartbeats 4000000 in
set_option maxRecDepth 100000 in
theorem c_X11_advert_e (l : Launch) (g : gG) (J : Nat → Nat → Int32) (L : Nat → Nat → Int64) (I : Nat → Nat → Nat → Int32) (P : Nat → Nat → Nat → Option Nat) (E : Nat → Option Nat) (N : Nat → Nat) (dy : List (Nat × Nat)) (sz : Nat) (a0 : Int32) (hwf : WXF g J P E N dy) (hac : 0 ≤ (J 12 10).toInt) : Met l yX11_advert (WS yX11_advert cX11_advert 3 (some .int)) (RM (2) 0 0) (PC g [.ref (g.2.2.1 12), .int a0] ((J, L, I, P, E, N), sgX g ++ dy) sz) (va_Qi (fun (r : Int32) (u : (Nat → Nat → Int32)) => ((r.toInt = (-4) ∧ (a0.toInt < 0) ∧ u 12 10 = J 12 10 ∧ u 40 = J 40) ∨ (r.toInt = (-6) ∧ (0 ≤ a0.toInt ∧ (9 < a0.toInt ∨ 200 ≤ (J 12 10).toInt)) ∧ u 12 10 = J 12 10 ∧ u 40 = J 40) ∨ (r.toInt = (J 12 10).toInt / 5 ∧ (0 ≤ a0.toInt ∧ a0.toInt ≤ 9 ∧ (J 12 10).toInt ≤ 199) ∧ (u 12 10).toInt = (J 12 10).toInt + 1 ∧ u 40 = up2 J 40 (J 12 10).toNatClampNeg a0 40)) ∧ (0 ≤ (u 12 10).toInt)) (fun u t => at_ g (FR g ((J, L, I, P, E, N), sgX g ++ dy) sz) (((hv J [40, 42] [(12, 10)] u), L, I, P, E, N), sgX g ++ dy) t) (FR g ((J, L, I, P, E, N), sgX g ++ dy) sz)) 0 0 (FR g ((J, L, I, P, E, N), sgX g ++ dy) sz) := by
  refine ent (by decide +kernel) (Nat.le_of_ble_eq_true rfl) ?_
  intro p e s m below meth c ls hsz C hW hr hlocks hname hl
  generalize FR g ((J, L, I, P, E, N), sgX g ++ dy) sz = A at C hW ⊢
  have hx := C.1.1
  have hb := C.1.2.1
  have hts := C.1.2.2.2.2
  have hl : lv_has ls 3 [(0, .ref (g.2.2.1 12)), (1, .int a0)] := hl
  obtain ⟨H, hH⟩ : ∃ H : Heap, H = s.heap := ⟨_, rfl⟩
  obtain ⟨locs, hlocs⟩ : ∃ q : List Loc, q = [] := ⟨_, rfl⟩
  have hW : WB g A s.heap H locs (J, L, I, P, E, N) (sgX g ++ dy) := by rw [hH, hlocs]; exact hW
  refine start_ hH hlocs ?_
  refine lv_iload_n hx hb dX11_advert_0 rfl (lv_at hl 1 rfl) ?_
  refine lv_if_ge (tgt := 11) hx hb dX11_advert_1 (by decide) (fun c1 => ?_) (fun c1 => ?_)
  · have c1 : 0 ≤ a0.toInt := tle kp0 rfl c1
    refine lv_iload_n hx hb dX11_advert_11 rfl (lv_at hl 1 rfl) ?_
    refine lv_bipush (v := 9) hx hb dX11_advert_12 (by decide) ?_
    refine lv_icmp_gt (tgt := 29) hx hb dX11_advert_14 (by decide) (fun c2 => ?_) (fun c2 => ?_)
    · have c2 : 9 < a0.toInt := tlt kp9 rfl c2
      refine lv_aload_n hx hb dX11_advert_29 rfl (lv_at hl 0 rfl) ?_
      refine lv_bipush (v := (-6)) hx hb dX11_advert_30 (by decide) ?_
      refine ci_ C hW (runV (x := (g.2.2.1 12)) (As := [.int (-6)]) (rest := []) (T := ((J, L, I, P, E, N), sgX g ++ dy)) C hW (c_X11_refuse l g J L I P E N dy H.size (-6) hwf) mi_X11_refuse tw_411 (recv_ (T := ((J, L, I, P, E, N), sgX g ++ dy)) C hW (mx_ rfl) rfl rfl) ⟨rfl, rfl, Nat.le_of_ble_eq_true rfl, Nat.le_of_ble_eq_true rfl⟩ rfl hl.1 rfl (Nat.le_of_ble_eq_true rfl) dX11_advert_32 ⟨Nat.le_of_ble_eq_true rfl, Nat.le_of_ble_eq_true rfl⟩) (fun r3 u3 H locs hp3 hW => ?_)
      have hc3 : ((r3 = (-6))) := hp3
      clear hp3
      have hr3 : r3.toInt = (-6) := by rw [hc3]; exact kn6
      have hW : WB g A s.heap H locs ((hv J [42] [] u3), L, I, P, E, N) (sgX g ++ dy) := hW
      have hWr : WB g A s.heap H locs ((hv J [40, 42] [(12, 10)] (hv J [42] [] u3)), L, I, P, E, N) (sgX g ++ dy) := by
        rw [← ag_hvE (J := J) (R := [40, 42]) (F := [(12, 10)]) (ag_hv rfl rfl ag_rf)]
        exact hW
      exact end_i C hr hlocks (hv J [42] [] u3) hWr ⟨by first | exact Or.inl ⟨by omega, by omega, show J 12 10 = J 12 10 from by first | rfl | assumption, show J 40 = J 40 from by first | rfl | assumption⟩ | exact Or.inr (Or.inl ⟨by omega, by omega, show J 12 10 = J 12 10 from by first | rfl | assumption, show J 40 = J 40 from by first | rfl | assumption⟩) | exact Or.inr (Or.inr (⟨by omega, by omega, show (J 12 10).toInt = (J 12 10).toInt + 1 from by first | rfl | omega, show J 40 = up2 J 40 (J 12 10).toNatClampNeg a0 40 from by first | rfl | omega⟩)), show 0 ≤ (J 12 10).toInt from by first | omega | assumption⟩ dX11_advert_35
    · have c2 : a0.toInt ≤ 9 := tnlt kp9 rfl c2
      refine lv_aload_n hx hb dX11_advert_17 rfl (lv_at hl 0 rfl) ?_
      refine rg_12_10 C hW (mx_ rfl) tw_374 dX11_advert_18 ?_
      refine lv_aload_n hx hb dX11_advert_21 rfl (lv_at hl 0 rfl) ?_
      refine rg_12_7 C hW (mx_ rfl) tw_371 dX11_advert_22 ?_
      refine rl_40 C hW (mx_ rfl) dX11_advert_25 ?_
      refine lv_icmp_lt (tgt := 36) hx hb dX11_advert_26 (by decide) (fun c4 => ?_) (fun c4 => ?_)
      · have c4 : (J 12 10).toInt < 200 := tlt rfl kp200 c4
        refine lv_aload_n hx hb dX11_advert_36 rfl (lv_at hl 0 rfl) ?_
        refine rg_12_7 C hW (mx_ rfl) tw_371 dX11_advert_37 ?_
        refine lv_aload_n hx hb dX11_advert_40 rfl (lv_at hl 0 rfl) ?_
        refine rg_12_10 C hW (mx_ rfl) tw_374 dX11_advert_41 ?_
        refine lv_iload_n hx hb dX11_advert_44 rfl (lv_at hl 1 rfl) ?_
        have hin : vp_in (J 12 10) 200 := tin rfl (by omega)
        refine rs_40 C hW (mx_ rfl) hin dX11_advert_45 (fun H locs hW => ?_)
        refine lv_aload_n hx hb dX11_advert_46 rfl (lv_at hl 0 rfl) ?_
        refine rg_12_10 C hW (mx_ rfl) tw_374 dX11_advert_47 ?_
        refine lv_as (J 12 10) rfl ?_
        refine lv_iconst (v := 5) hx hb dX11_advert_50 (by decide) ?_
        refine lv_idiv hx hb dX11_advert_51 (by decide) ?_
        refine lv_topi (fun x5 (e5 : x5 = (J 12 10) / 5) => ?_)
        have t5 : x5.toInt = ((J 12 10).toInt).tdiv 5 := tdiv e5 rfl kp5 (by decide)
        try rw [tdp (a := (J 12 10).toInt) (by omega)] at t5
        refine lv_istore_n (lv' := [(2, .int x5), (0, .ref (g.2.2.1 12)), (1, .int a0)]) hx hb dX11_advert_52 rfl hl (by decide) rfl (fun ls hl => ?_)
        refine lv_aload_n hx hb dX11_advert_53 rfl (lv_at hl 1 rfl) ?_
        refine lv_dup hx hb dX11_advert_54 rfl ?_
        refine rg_12_10 C hW (mx_ rfl) tw_374 dX11_advert_55 ?_
        refine lv_as (J 12 10) rfl ?_
        refine lv_iconst (v := 1) hx hb dX11_advert_58 (by decide) ?_
        refine lv_iadd hx hb dX11_advert_59 ?_
        refine lv_topi (fun x6 (e6 : x6 = (J 12 10) + 1) => ?_)
        try have t6 : x6.toInt = (J 12 10).toInt + 1 := tadd e6 rfl kp1 (by omega)
        refine rp_12_10 C hW (mx_ rfl) tw_374 dX11_advert_60 (fun H locs hW => ?_)
        refine lv_iload_n hx hb dX11_advert_63 rfl (lv_at hl 0 rfl) ?_
        have hWr : WB g A s.heap H locs ((hv J [40, 42] [(12, 10)] (up2 (up2 J 40 ((J 12 10).toNatClampNeg) a0) 12 10 x6)), L, I, P, E, N) (sgX g ++ dy) := by
          rw [← ag_hvE (J := J) (R := [40, 42]) (F := [(12, 10)]) (ag_up (Or.inr rfl) (ag_up (Or.inl rfl) ag_rf))]
          exact hW
        exact end_i C hr hlocks (up2 (up2 J 40 ((J 12 10).toNatClampNeg) a0) 12 10 x6) hWr ⟨by first | exact Or.inl ⟨by omega, by omega, show x6 = J 12 10 from by first | rfl | assumption, show (up2 J 40 ((J 12 10).toNatClampNeg) a0) 40 = J 40 from by first | rfl | assumption⟩ | exact Or.inr (Or.inl ⟨by omega, by omega, show x6 = J 12 10 from by first | rfl | assumption, show (up2 J 40 ((J 12 10).toNatClampNeg) a0) 40 = J 40 from by first | rfl | assumption⟩) | exact Or.inr (Or.inr (⟨by omega, by omega, show (x6).toInt = (J 12 10).toInt + 1 from by first | rfl | omega, show (up2 J 40 ((J 12 10).toNatClampNeg) a0) 40 = up2 J 40 (J 12 10).toNatClampNeg a0 40 from by first | rfl | omega⟩)), show 0 ≤ (x6).toInt from by first | omega | assumption⟩ dX11_advert_64
      · have c4 : 200 ≤ (J 12 10).toInt := tnlt rfl kp200 c4
        refine lv_aload_n hx hb dX11_advert_29 rfl (lv_at hl 0 rfl) ?_
        refine lv_bipush (v := (-6)) hx hb dX11_advert_30 (by decide) ?_
        refine ci_ C hW (runV (x := (g.2.2.1 12)) (As := [.int (-6)]) (rest := []) (T := ((J, L, I, P, E, N), sgX g ++ dy)) C hW (c_X11_refuse l g J L I P E N dy H.size (-6) hwf) mi_X11_refuse tw_411 (recv_ (T := ((J, L, I, P, E, N), sgX g ++ dy)) C hW (mx_ rfl) rfl rfl) ⟨rfl, rfl, Nat.le_of_ble_eq_true rfl, Nat.le_of_ble_eq_true rfl⟩ rfl hl.1 rfl (Nat.le_of_ble_eq_true rfl) dX11_advert_32 ⟨Nat.le_of_ble_eq_true rfl, Nat.le_of_ble_eq_true rfl⟩) (fun r7 u7 H locs hp7 hW => ?_)
        have hc7 : ((r7 = (-6))) := hp7
        clear hp7
        have hr7 : r7.toInt = (-6) := by rw [hc7]; exact kn6
        have hW : WB g A s.heap H locs ((hv J [42] [] u7), L, I, P, E, N) (sgX g ++ dy) := hW
        have hWr : WB g A s.heap H locs ((hv J [40, 42] [(12, 10)] (hv J [42] [] u7)), L, I, P, E, N) (sgX g ++ dy) := by
          rw [← ag_hvE (J := J) (R := [40, 42]) (F := [(12, 10)]) (ag_hv rfl rfl ag_rf)]
          exact hW
        exact end_i C hr hlocks (hv J [42] [] u7) hWr ⟨by first | exact Or.inl ⟨by omega, by omega, show J 12 10 = J 12 10 from by first | rfl | assumption, show J 40 = J 40 from by first | rfl | assumption⟩ | exact Or.inr (Or.inl ⟨by omega, by omega, show J 12 10 = J 12 10 from by first | rfl | assumption, show J 40 = J 40 from by first | rfl | assumption⟩) | exact Or.inr (Or.inr (⟨by omega, by omega, show (J 12 10).toInt = (J 12 10).toInt + 1 from by first | rfl | omega, show J 40 = up2 J 40 (J 12 10).toNatClampNeg a0 40 from by first | rfl | omega⟩)), show 0 ≤ (J 12 10).toInt from by first | omega | assumption⟩ dX11_advert_35
  · have c1 : a0.toInt < 0 := tnle kp0 rfl c1
    refine lv_aload_n hx hb dX11_advert_4 rfl (lv_at hl 0 rfl) ?_
    refine lv_bipush (v := (-4)) hx hb dX11_advert_5 (by decide) ?_
    refine ci_ C hW (runV (x := (g.2.2.1 12)) (As := [.int (-4)]) (rest := []) (T := ((J, L, I, P, E, N), sgX g ++ dy)) C hW (c_X11_refuse l g J L I P E N dy H.size (-4) hwf) mi_X11_refuse tw_411 (recv_ (T := ((J, L, I, P, E, N), sgX g ++ dy)) C hW (mx_ rfl) rfl rfl) ⟨rfl, rfl, Nat.le_of_ble_eq_true rfl, Nat.le_of_ble_eq_true rfl⟩ rfl hl.1 rfl (Nat.le_of_ble_eq_true rfl) dX11_advert_7 ⟨Nat.le_of_ble_eq_true rfl, Nat.le_of_ble_eq_true rfl⟩) (fun r8 u8 H locs hp8 hW => ?_)
    have hc8 : ((r8 = (-4))) := hp8
    clear hp8
    have hr8 : r8.toInt = (-4) := by rw [hc8]; exact kn4
    have hW : WB g A s.heap H locs ((hv J [42] [] u8), L, I, P, E, N) (sgX g ++ dy) := hW
    have hWr : WB g A s.heap H locs ((hv J [40, 42] [(12, 10)] (hv J [42] [] u8)), L, I, P, E, N) (sgX g ++ dy) := by
      rw [← ag_hvE (J := J) (R := [40, 42]) (F := [(12, 10)]) (ag_hv rfl rfl ag_rf)]
      exact hW
    exact end_i C hr hlocks (hv J [42] [] u8) hWr ⟨by first | exact Or.inl ⟨by omega, by omega, show J 12 10 = J 12 10 from by first | rfl | assumption, show J 40 = J 40 from by first | rfl | assumption⟩ | exact Or.inr (Or.inl ⟨by omega, by omega, show J 12 10 = J 12 10 from by first | rfl | assumption, show J 40 = J 40 from by first | rfl | assumption⟩) | exact Or.inr (Or.inr (⟨by omega, by omega, show (J 12 10).toInt = (J 12 10).toInt + 1 from by first | rfl | omega, show J 40 = up2 J 40 (J 12 10).toNatClampNeg a0 40 from by first | rfl | omega⟩)), show 0 ≤ (J 12 10).toInt from by first | omega | assumption⟩ dX11_advert_10
