theorem WR_sub1 {g : gG} {A : Nat → Prop} {H0 H : Heap} {locs : List Loc} {X X' Y Z : va_W} (h : WR g A H0 H locs ((X ++ Y) ++ Z)) (is : List Nat) (hn : va_nd is = true) (hs : is.map (fun i => X[i]?) = X'.map some) : WR g A H0 H locs ((X' ++ Y) ++ Z) := by
  obtain ⟨P, D, S⟩ := h
  have key : ∀ (k : Nat) (q : Nat × va_E), X'[k]? = some q → ∃ i : Nat, X[i]? = some q := by
    intro k q hk
    have h1 : (X'.map some)[k]? = some (some q) := by rw [List.getElem?_map, hk]; rfl
    rw [← hs, List.getElem?_map] at h1
    cases hi : is[k]? with
    | none => rw [hi] at h1; cases h1
    | some i => rw [hi] at h1; exact ⟨i, Option.some.inj h1⟩
  have DXY := dL D
  have P' : va_P g.1 vwCl X' H := fun k q hk => by obtain ⟨i, hi⟩ := key k q hk; exact pL (pL P) i q hi
  refine ⟨(P'.app (pR (pL P))).app (pR P), va_D.app (va_D.app ((dL DXY).sub is hn hs) (dR DXY) (fun i j p q hi hj => by obtain ⟨i2, h2⟩ := key i p hi; exact dX_ DXY h2 hj)) (dR D) (fun i j p q hi hj => ?_), S⟩
  rcases List.mem_append.mp (List.mem_of_getElem? hi) with h | h
  · obtain ⟨i2, h2⟩ := List.getElem?_of_mem h
    obtain ⟨i3, h3⟩ := key i2 p h2
    exact dX_ D (by rw [List.getElem?_append_left (List.getElem?_eq_some_iff.mp h3).1]; exact h3) hj
  · obtain ⟨i2, h2⟩ := List.getElem?_of_mem h
    exact dX_ D (eR i2 p h2) hj
theorem t1_270 : (.methodLinkNest RX11 18 yX2_init RX11 : Cond) ∈ lw_tbl := List.mem_append_right _ (show (.methodLinkNest RX11 18 yX2_init RX11 : Cond) ∈ tables_1 from List.mem_append_left _ (List.mem_of_getElem? (i := 204) rfl))
theorem t1_296 : (.methodLinkNest RX11 38 yX10_init RX11 : Cond) ∈ lw_tbl := List.mem_append_right _ (show (.methodLinkNest RX11 38 yX10_init RX11 : Cond) ∈ tables_1 from List.mem_append_left _ (List.mem_of_getElem? (i := 230) rfl))
theorem t1_321 : (.methodLinkNest RX11 45 yX7_init RX11 : Cond) ∈ lw_tbl := List.mem_append_right _ (show (.methodLinkNest RX11 45 yX7_init RX11 : Cond) ∈ tables_1 from List.mem_append_right _ (List.mem_append_left _ (List.mem_of_getElem? (i := 15) rfl)))
theorem t1_674 : (.methodLinkNest RX7 23 yX10_isLetter RX11 : Cond) ∈ lw_tbl := List.mem_append_right _ (show (.methodLinkNest RX7 23 yX10_isLetter RX11 : Cond) ∈ tables_1 from List.mem_append_right _ (List.mem_append_right _ (List.mem_append_left _ (List.mem_of_getElem? (i := 128) rfl))))
theorem t1_722 : (.methodLinkNest RX3 83 yX11_hourOf RX11 : Cond) ∈ lw_tbl := List.mem_append_right _ (show (.methodLinkNest RX3 83 yX11_hourOf RX11 : Cond) ∈ tables_1 from List.mem_append_right _ (List.mem_append_right _ (List.mem_append_left _ (List.mem_of_getElem? (i := 176) rfl))))
theorem t1_791 : (.castable "[I" RJx8e188 : Cond) ∈ lw_tbl := List.mem_append_right _ (show (.castable "[I" RJx8e188 : Cond) ∈ tables_1 from List.mem_append_right _ (List.mem_append_right _ (List.mem_append_right _ (List.mem_append_left _ (List.mem_of_getElem? (i := 5) rfl)))))
theorem t1_1549 : (.castable RX11 "java/lang/Object" : Cond) ∈ lw_tbl := List.mem_append_right _ (show (.castable RX11 "java/lang/Object" : Cond) ∈ tables_1 from List.mem_append_right _ (List.mem_append_right _ (List.mem_append_right _ (List.mem_append_right _ (List.mem_append_right _ (List.mem_append_right _ (List.mem_of_getElem? (i := 43) rfl)))))))
theorem t1_1550 : (.castable RX3 "java/lang/Object" : Cond) ∈ lw_tbl := List.mem_append_right _ (show (.castable RX3 "java/lang/Object" : Cond) ∈ tables_1 from List.mem_append_right _ (List.mem_append_right _ (List.mem_append_right _ (List.mem_append_right _ (List.mem_append_right _ (List.mem_append_right _ (List.mem_of_getElem? (i := 44) rfl)))))))
theorem t1_1551 : (.castable RJx4a65c "java/lang/Object" : Cond) ∈ lw_tbl := List.mem_append_right _ (show (.castable RJx4a65c "java/lang/Object" : Cond) ∈ tables_1 from List.mem_append_right _ (List.mem_append_right _ (List.mem_append_right _ (List.mem_append_right _ (List.mem_append_right _ (List.mem_append_right _ (List.mem_of_getElem? (i := 45) rfl)))))))
theorem t1_1552 : (.castable RX5 "java/lang/Object" : Cond) ∈ lw_tbl := List.mem_append_right _ (show (.castable RX5 "java/lang/Object" : Cond) ∈ tables_1 from List.mem_append_right _ (List.mem_append_right _ (List.mem_append_right _ (List.mem_append_right _ (List.mem_append_right _ (List.mem_append_right _ (List.mem_of_getElem? (i := 46) rfl)))))))
theorem t1_1553 : (.castable RX2 "java/lang/Object" : Cond) ∈ lw_tbl := List.mem_append_right _ (show (.castable RX2 "java/lang/Object" : Cond) ∈ tables_1 from List.mem_append_right _ (List.mem_append_right _ (List.mem_append_right _ (List.mem_append_right _ (List.mem_append_right _ (List.mem_append_right _ (List.mem_of_getElem? (i := 47) rfl)))))))
theorem t1_1554 : (.castable RX10 "java/lang/Object" : Cond) ∈ lw_tbl := List.mem_append_right _ (show (.castable RX10 "java/lang/Object" : Cond) ∈ tables_1 from List.mem_append_right _ (List.mem_append_right _ (List.mem_append_right _ (List.mem_append_right _ (List.mem_append_right _ (List.mem_append_right _ (List.mem_of_getElem? (i := 48) rfl)))))))
theorem t1_1555 : (.castable RX7 "java/lang/Object" : Cond) ∈ lw_tbl := List.mem_append_right _ (show (.castable RX7 "java/lang/Object" : Cond) ∈ tables_1 from List.mem_append_right _ (List.mem_append_right _ (List.mem_append_right _ (List.mem_append_right _ (List.mem_append_right _ (List.mem_append_right _ (List.mem_of_getElem? (i := 49) rfl)))))))
theorem t1_1556 : (.castable RX12 "java/lang/Object" : Cond) ∈ lw_tbl := List.mem_append_right _ (show (.castable RX12 "java/lang/Object" : Cond) ∈ tables_1 from List.mem_append_right _ (List.mem_append_right _ (List.mem_append_right _ (List.mem_append_right _ (List.mem_append_right _ (List.mem_append_right _ (List.mem_of_getElem? (i := 50) rfl)))))))
theorem t1_1557 : (.castable RX8 "java/lang/Object" : Cond) ∈ lw_tbl := List.mem_append_right _ (show (.castable RX8 "java/lang/Object" : Cond) ∈ tables_1 from List.mem_append_right _ (List.mem_append_right _ (List.mem_append_right _ (List.mem_append_right _ (List.mem_append_right _ (List.mem_append_right _ (List.mem_of_getElem? (i := 51) rfl)))))))
theorem t1_1558 : (.castable RX0 "java/lang/Object" : Cond) ∈ lw_tbl := List.mem_append_right _ (show (.castable RX0 "java/lang/Object" : Cond) ∈ tables_1 from List.mem_append_right _ (List.mem_append_right _ (List.mem_append_right _ (List.mem_append_right _ (List.mem_append_right _ (List.mem_append_right _ (List.mem_of_getElem? (i := 52) rfl)))))))
theorem t1_1559 : (.castable RX1 "java/lang/Object" : Cond) ∈ lw_tbl := List.mem_append_right _ (show (.castable RX1 "java/lang/Object" : Cond) ∈ tables_1 from List.mem_append_right _ (List.mem_append_right _ (List.mem_append_right _ (List.mem_append_right _ (List.mem_append_right _ (List.mem_append_right _ (List.mem_of_getElem? (i := 53) rfl)))))))
theorem t1_1560 : (.castable RX6 "java/lang/Object" : Cond) ∈ lw_tbl := List.mem_append_right _ (show (.castable RX6 "java/lang/Object" : Cond) ∈ tables_1 from List.mem_append_right _ (List.mem_append_right _ (List.mem_append_right _ (List.mem_append_right _ (List.mem_append_right _ (List.mem_append_right _ (List.mem_of_getElem? (i := 54) rfl)))))))
theorem t1_1561 : (.castable RX9 "java/lang/Object" : Cond) ∈ lw_tbl := List.mem_append_right _ (show (.castable RX9 "java/lang/Object" : Cond) ∈ tables_1 from List.mem_append_right _ (List.mem_append_right _ (List.mem_append_right _ (List.mem_append_right _ (List.mem_append_right _ (List.mem_append_right _ (List.mem_of_getElem? (i := 55) rfl)))))))
theorem t1_1562 : (.castable RX4 "java/lang/Object" : Cond) ∈ lw_tbl := List.mem_append_right _ (show (.castable RX4 "java/lang/Object" : Cond) ∈ tables_1 from List.mem_append_right _ (List.mem_append_right _ (List.mem_append_right _ (List.mem_append_right _ (List.mem_append_right _ (List.mem_append_right _ (List.mem_of_getElem? (i := 56) rfl)))))))
theorem t1_1566 : (.castable "[J" "java/lang/Object" : Cond) ∈ lw_tbl := List.mem_append_right _ (show (.castable "[J" "java/lang/Object" : Cond) ∈ tables_1 from List.mem_append_right _ (List.mem_append_right _ (List.mem_append_right _ (List.mem_append_right _ (List.mem_append_right _ (List.mem_append_right _ (List.mem_of_getElem? (i := 60) rfl)))))))
theorem t1_1567 : (.castable "[Ljava/lang/Object;" "java/lang/Object" : Cond) ∈ lw_tbl := List.mem_append_right _ (show (.castable "[Ljava/lang/Object;" "java/lang/Object" : Cond) ∈ tables_1 from List.mem_append_right _ (List.mem_append_right _ (List.mem_append_right _ (List.mem_append_right _ (List.mem_append_right _ (List.mem_append_right _ (List.mem_of_getElem? (i := 61) rfl)))))))
theorem t1_1568 : (.castable "[I" "java/lang/Object" : Cond) ∈ lw_tbl := List.mem_append_right _ (show (.castable "[I" "java/lang/Object" : Cond) ∈ tables_1 from List.mem_append_right _ (List.mem_append_right _ (List.mem_append_right _ (List.mem_append_right _ (List.mem_append_right _ (List.mem_append_right _ (List.mem_of_getElem? (i := 62) rfl)))))))
theorem t1_1569 : (.castable "[Z" "java/lang/Object" : Cond) ∈ lw_tbl := List.mem_append_right _ (show (.castable "[Z" "java/lang/Object" : Cond) ∈ tables_1 from List.mem_append_right _ (List.mem_append_right _ (List.mem_append_right _ (List.mem_append_right _ (List.mem_append_right _ (List.mem_append_right _ (List.mem_of_getElem? (i := 63) rfl)))))))
theorem t1_222 : (.arrayOver (.object "java/lang/Object") : Cond) ∈ lw_tbl := List.mem_append_right _ (show (.arrayOver (.object "java/lang/Object") : Cond) ∈ tables_1 from List.mem_append_left _ (List.mem_of_getElem? (i := 156) rfl))
theorem t1_1565 : (.declares ⟨"java/lang/Object", "getClass", "()Ljava/lang/Class;"⟩ : Cond) ∈ lw_tbl := List.mem_append_right _ (show (.declares ⟨"java/lang/Object", "getClass", "()Ljava/lang/Class;"⟩ : Cond) ∈ tables_1 from List.mem_append_right _ (List.mem_append_right _ (List.mem_append_right _ (List.mem_append_right _ (List.mem_append_right _ (List.mem_append_right _ (List.mem_of_getElem? (i := 59) rfl)))))))
theorem t1_118 : (.laysStatic "java/util/ArrayList" "DEFAULTCAPACITY_EMPTY_ELEMENTDATA" "[Ljava/lang/Object;" : Cond) ∈ lw_tbl := List.mem_append_right _ (show (.laysStatic "java/util/ArrayList" "DEFAULTCAPACITY_EMPTY_ELEMENTDATA" "[Ljava/lang/Object;" : Cond) ∈ tables_1 from List.mem_append_left _ (List.mem_of_getElem? (i := 52) rfl))
set_option maxHeartbeats 4000000 in
set_option maxRecDepth 100000 in
theorem law_g {p : Program} {s : State} {m : MethodId} {meth : Method} {c : Code} {b Lx : Nat} {xs : Nat → Int32} (C0 : lw_At p s m meth c b Lx xs) : ∃ g : gG, CC g (fun q => s.heap.size ≤ q) p m c code 4 s (#[Value.ref b]) "EarPaperLaw" := by
  obtain ⟨hx, hb, hr, hml, hown, hts, hX, hbl, hlocks, hgv⟩ := C0
  have hts2 : ∀ w ∈ lw_t2, w.before #[Value.ref b] s = true := fun w h => hts w (t2_in w h)
  obtain ⟨c0, i0, hk0⟩ := u_known (C := RJx4a65c) (T := TJx4a65c) (N := 3) (n := 3) hts2 in_Jx4a65c (hts2 _ tw_106)
  obtain ⟨c1, i1, hk1⟩ := u_known (C := RX0) (T := TX0) (N := 3) (n := 3) hts2 in_X0 (hts2 _ tw_502)
  obtain ⟨c2, i2, hk2⟩ := u_known (C := RX1) (T := TX1) (N := 5) (n := 5) hts2 in_X1 (hts2 _ tw_543)
  obtain ⟨c3, i3, hk3⟩ := u_known (C := RX2) (T := TX2) (N := 4) (n := 4) hts2 in_X2 (hts2 _ tw_269)
  obtain ⟨c4, i4, hk4⟩ := u_known (C := RX3) (T := TX3) (N := 9) (n := 9) hts2 in_X3 (hts2 _ tw_100)
  obtain ⟨c5, i5, hk5⟩ := u_known (C := RX4) (T := TX4) (N := 3) (n := 3) hts2 in_X4 (hts2 _ tw_937)
  obtain ⟨c6, i6, hk6⟩ := u_known (C := RX5) (T := TX5) (N := 8) (n := 8) hts2 in_X5 (hts2 _ tw_132)
  obtain ⟨c7, i7, hk7⟩ := u_known (C := RX6) (T := TX6) (N := 3) (n := 3) hts2 in_X6 (hts2 _ tw_590)
  obtain ⟨c8, i8, hk8⟩ := u_known (C := RX7) (T := TX7) (N := 10) (n := 10) hts2 in_X7 (hts2 _ tw_320)
  obtain ⟨c9, i9, hk9⟩ := u_known (C := RX8) (T := TX8) (N := 7) (n := 7) hts2 in_X8 (hts2 _ tw_416)
  obtain ⟨c10, i10, hk10⟩ := u_known (C := RX9) (T := TX9) (N := 5) (n := 5) hts2 in_X9 (hts2 _ tw_776)
  obtain ⟨c11, i11, hk11⟩ := u_known (C := RX10) (T := TX10) (N := 5) (n := 5) hts2 in_X10 (hts2 _ tw_295)
  obtain ⟨c12, i12, hk12⟩ := u_known (C := RX11) (T := TX11) (N := 14) (n := 14) hts2 in_X11 (hts2 _ tw_92)
  obtain ⟨c13, i13, hk13⟩ := u_known (C := RX12) (T := TX12) (N := 70) (n := 70) hts2 in_X12 (hts2 _ tw_1018)
  obtain ⟨ai, ki, mi, fi, qi, di⟩ := Cond.arrayClass_spec (hts2 _ tw_318)
  obtain ⟨al, kl, ml, fl, ql, dl⟩ := Cond.arrayClass_spec (hts2 _ tw_170)
  obtain ⟨az, kz, mz, fz, qz, dz⟩ := Cond.arrayClass_spec (hts2 _ tw_1234)
  obtain ⟨mo, ao, ko, e1, e2, e3, e4, e5⟩ := Cond.arrayOver_spec (hts _ t1_222)
  have hs := flat_of_before _ hgv
  have har : (Cond.arrayOf (.static "java/util/ArrayList" "DEFAULTCAPACITY_EMPTY_ELEMENTDATA" "[Ljava/lang/Object;") (.object "java/lang/Object")).before #[Value.ref b] s = true := hs _ (by decide +kernel)
  have hle : (Cond.eq (.length (.static "java/util/ArrayList" "DEFAULTCAPACITY_EMPTY_ELEMENTDATA" "[Ljava/lang/Object;")) (.int 0)).before #[Value.ref b] s = true := hs _ (by decide +kernel)
  have hmi : (Cond.isRef (.mirror "[Ljava/lang/Object;")).before #[Value.ref b] s = true := hs _ (by decide +kernel)
  have hAo : ∀ a : Nat, a < s.heap.size → ¬ (fun q : Nat => s.heap.size ≤ q) a := fun a h q => absurd h (Nat.not_lt.mpr q)
  obtain ⟨t, ht, hT⟩ := va_Tof (N := 0) (f := fun _ => .null) (A := fun q : Nat => s.heap.size ≤ q) (by decide) har (show _ = some (Value.int (Int32.ofNat 0)) from va_eqt hle) (fun j hj => absurd hj (Nat.not_lt_zero j)) hAo
  have hZ := va_Zref (A := fun q : Nat => s.heap.size ≤ q) (hts _ t1_118) (hts2 _ tw_71) ht hAo
  refine ⟨((fun k => [c0, c1, c2, c3, c4, c5, c6, c7, c8, c9, c10, c11, c12, c13].getD k 0, fun k => [i0, i1, i2, i3, i4, i5, i6, i7, i8, i9, i10, i11, i12, i13].getD k (fun _ => 0)), (fun k => [ai, al, az, ao].getD k 0), (fun _ => 0), t), ⟨hx, hb, hml, hown, hts2⟩, ⟨fun k q hq => ?_, fun k q hq => ?_⟩, fun q h => h, hZ, hT, ?_, ?_, va_AO.of (hts _ t1_222), va_Dc.of (hts _ t1_1565), va_Mi.of hmi⟩
  · match k, hq with
    | 0, hq => cases hq; exact hk0
    | 1, hq => cases hq; exact hk1
    | 2, hq => cases hq; exact hk2
    | 3, hq => cases hq; exact hk3
    | 4, hq => cases hq; exact hk4
    | 5, hq => cases hq; exact hk5
    | 6, hq => cases hq; exact hk6
    | 7, hq => cases hq; exact hk7
    | 8, hq => cases hq; exact hk8
    | 9, hq => cases hq; exact hk9
    | 10, hq => cases hq; exact hk10
    | 11, hq => cases hq; exact hk11
    | 12, hq => cases hq; exact hk12
    | 13, hq => cases hq; exact hk13
    | k + 14, hq => simp [vwCl] at hq
  · match k, hq with
    | 0, hq => cases hq; exact ⟨fun n z => ⟨fun k h => (by cases h), ki, qi, mi, di⟩, fi⟩
    | 1, hq => cases hq; exact ⟨fun n z => ⟨fun k h => (by cases h), kl, ql, ml, dl⟩, fl⟩
    | 2, hq => cases hq; exact ⟨fun n z => ⟨fun k h => (by cases h), kz, qz, mz, dz⟩, fz⟩
    | 3, hq => cases hq; exact ⟨fun n z => ⟨fun k h => (by cases h), ko, e3, mo, e4⟩, ko, mo, e3, e4, e1, e5⟩
    | k + 4, hq => simp [tyL] at hq
  · exact List.forall_mem_cons.mpr ⟨va_Nw.of rfl (hts _ t1_270), List.forall_mem_cons.mpr ⟨va_Nw.of rfl (hts _ t1_296), List.forall_mem_cons.mpr ⟨va_Nw.of rfl (hts _ t1_321), List.forall_mem_cons.mpr ⟨va_Nw.of rfl (hts _ t1_674), List.forall_mem_cons.mpr ⟨va_Nw.of rfl (hts _ t1_722), fun _ h => absurd h List.not_mem_nil⟩⟩⟩⟩⟩
  · exact List.forall_mem_cons.mpr ⟨va_Nw.of rfl (hts _ t1_791), List.forall_mem_cons.mpr ⟨va_Nw.of rfl (hts _ t1_1549), List.forall_mem_cons.mpr ⟨va_Nw.of rfl (hts _ t1_1550), List.forall_mem_cons.mpr ⟨va_Nw.of rfl (hts _ t1_1551), List.forall_mem_cons.mpr ⟨va_Nw.of rfl (hts _ t1_1552), List.forall_mem_cons.mpr ⟨va_Nw.of rfl (hts _ t1_1553), List.forall_mem_cons.mpr ⟨va_Nw.of rfl (hts _ t1_1554), List.forall_mem_cons.mpr ⟨va_Nw.of rfl (hts _ t1_1555), List.forall_mem_cons.mpr ⟨va_Nw.of rfl (hts _ t1_1556), List.forall_mem_cons.mpr ⟨va_Nw.of rfl (hts _ t1_1557), List.forall_mem_cons.mpr ⟨va_Nw.of rfl (hts _ t1_1558), List.forall_mem_cons.mpr ⟨va_Nw.of rfl (hts _ t1_1559), List.forall_mem_cons.mpr ⟨va_Nw.of rfl (hts _ t1_1560), List.forall_mem_cons.mpr ⟨va_Nw.of rfl (hts _ t1_1561), List.forall_mem_cons.mpr ⟨va_Nw.of rfl (hts _ t1_1562), List.forall_mem_cons.mpr ⟨va_Nw.of rfl (hts _ t1_1566), List.forall_mem_cons.mpr ⟨va_Nw.of rfl (hts _ t1_1567), List.forall_mem_cons.mpr ⟨va_Nw.of rfl (hts _ t1_1568), List.forall_mem_cons.mpr ⟨va_Nw.of rfl (hts _ t1_1569), fun _ h => absurd h List.not_mem_nil⟩⟩⟩⟩⟩⟩⟩⟩⟩⟩⟩⟩⟩⟩⟩⟩⟩⟩⟩
