set_option maxHeartbeats 40000000 in
set_option maxRecDepth 100000 in
theorem law_loop {p : Program} {l : Launch} {e : Env} {s : State} {m : MethodId} {below : List Frame} {meth : Method} {c : Code} {b Lx : Nat} {xs : Nat → Int32} (hL : Lx ≤ 320) (C0 : lw_At p s m meth c b Lx xs) {g : gG} {A : Nat → Prop} (hA : ∀ q, A q → s.heap.size ≤ q) (C : CC g A p m c code 4 s (#[Value.ref b]) "EarPaperLaw") : ∀ (n k : Nat) (i : Int32) (J : Nat → Nat → Int32) (L : Nat → Nat → Int64) (I : Nat → Nat → Nat → Int32) (P : Nat → Nat → Nat → Option Nat) (E : Nat → Option Nat) (N : Nat → Nat) (dy : List (Nat × Nat)) (H : Heap) (locs : List Loc) (ls : Array Slot), 5 * k ≤ Lx → Lx < 5 * k + n → i.toInt = 5 * (k : Int) → WXF g J P E N dy → WM J → (0 ≤ (J 3 1).toInt ∧ (J 3 1).toInt ≤ 9999 ∧ (J 27 2).toInt ≤ (J 3 1).toInt) → 0 ≤ (J 12 11).toInt → 0 ≤ (J 12 10).toInt → ((J 3 1).toInt = (J 13 31).toInt) → (J 4 4 = J 13 33) → (J 12 12 = J 13 38) → (J 12 13 = J 13 39) → (1 ≤ (J 12 12).toInt ∧ 0 ≤ (J 12 13).toInt ∧ (J 12 13).toInt ≤ 240) → ((J 24 2).toInt = (J 13 37).toInt) → (RDR I E P (J 113) (J 114) (J 115) (J 24 2).toInt) → (ZR (J 115) (J 24 2).toInt) → (INJ E P 24 (J 24 2).toInt) → (SPR I E P (J 27 2).toInt (J 3 1).toInt (J 116) (J 117) (J 118) (J 119) (J 120)) → ((J 26 2).toInt = (J 13 42).toInt) → ((J 20 2).toInt = (J 13 32).toInt) → ((J 22 2).toInt = (J 13 35).toInt) → ((J 11 2).toInt = (J 13 55).toInt) → (∀ k : Nat, (k : Int) < (J 11 2).toInt → J 43 k = J 153 k) → ((J 25 2).toInt = (J 13 40).toInt) → (TMR I P E N (J 25 2).toInt (J 121) (J 122) (J 123) (J 124)) → ((J 12 11).toInt = (J 13 44).toInt) → (∀ k : Nat, (k : Int) < (J 12 11).toInt → J 41 k = J 130 k) → ((J 21 2).toInt = (J 13 34).toInt) → (INJ E P 20 (J 20 2).toInt) → (NTR (P 6 0) (elt E P 20) (J 101) (J 20 2).toInt) → (FLD I E P (J 102) 20 6 1 (J 20 2).toInt) → (FLD I E P (J 103) 20 6 3 (J 20 2).toInt) → (ZR (J 103) (J 20 2).toInt) → (∀ k : Nat, (k : Int) < (J 20 2).toInt → (I 6 5 (elt E P 20 k)).toInt = 0) → (∀ k : Nat, J 104 k = 0) → (CUR (P 1 0) (I 1 1) (I 1 2) (elt E P 21) (elt E P 20) (J 105) (J 106) (J 107) (J 21 2).toInt (J 20 2).toInt) → (HMR (P 2 0) (I 2 1) (I 2 2) (I 2 3) (elt E P 22) (elt E P 20) (J 108) (J 109) (J 110) (J 111) (J 22 2).toInt (J 20 2).toInt) → (J 4 5 = J 13 36) → (1 ≤ (J 4 5).toInt ∧ (J 4 5).toInt ≤ 99) → (1 ≤ (J 13 49).toInt ∧ (J 13 49).toInt ≤ (k : Int) + 1) → (CAC J) → (ASK I P E N (J 25 2).toInt) → ((J 23 2).toInt = (J 13 41).toInt) → (GN I E P (J 125) (J 20 2).toInt (J 13 41).toInt) → (CHN I E P (J 125) (J 126) (J 13 41).toInt (J 20 2).toInt) → (WBD (J 102) (J 13 32).toInt) → (BBD (J 103)) → (0 ≤ (J 13 33).toInt ∧ (J 13 33).toInt ≤ 20) → (INJ E P 22 (J 22 2).toInt) → (FLD I E P (J 112) 22 2 4 (J 22 2).toInt) → (ZR (J 112) (J 22 2).toInt) → (∀ k : Nat, (J 112 k).toInt = 0 ∨ (J 112 k).toInt = 1) → (PTR I E P (J 101) (J 20 2).toInt) → WB g A s.heap H locs (J, L, I, P, E, N) ((sgX g ++ dy) ++ sgM g) → lv_has ls 4 [(3, .int i), (0, .ref b), (1, .ref (g.2.2.1 12)), (2, .ref (g.2.2.1 13))] → W p l e room_1 s m #[Value.ref b] below meth c H locs (1000 + 10 * k) (200000 + 20100 * k) (lw_Z below #[Value.ref b] s) (F0 m 18 ls []) := by
  obtain ⟨hx, hb, hr, hml, hown, hts0, hX, hbl, hlocks, hgv⟩ := C0
  have hts := C.1.2.2.2.2
  have hbA : ¬ A b := fun q => by have := hA b q; omega
  intro n
  induction n with
  | zero => intro k i J L I P E N dy H locs ls h1 h2; exact absurd h2 (by omega)
  | succ n ih =>
    intro k i J L I P E N dy H locs ls hk5 hkn hi hwf hwm hnow hrl hac hrel0 hrel1 hrel2 hrel3 hrel4 hrel5 hrel6 hrel7 hrel8 hrel9 hrel10 hrel11 hrel12 hrel13 hrel14 hrel15 hrel16 hrel17 hrel18 hrel19 hrel20 hrel21 hrel22 hrel23 hrel24 hrel25 hrel26 hrel27 hrel28 hrel29 hrel30 hrel31 hrel32 hrel33 hrel34 hrel35 hrel36 hrel37 hrel38 hrel39 hrel40 hrel41 hrel42 hrel43 hrel44 hW hl
    have htp0 := hwm.2.2.2.2.2.2.2.2
    have hrw9 := hwm.2.2.2.2.2.2
    have hnd9 := hwm.1.1
    have hk64 : k ≤ 64 := by omega
    have hwf0 := hwf
    have hwm0 := hwm
    have hnow0 := hnow
    have hrl0 := hrl
    have hac0 := hac
    refine lv_iload_n hx hb dL_law_18 rfl (lv_at hl 0 rfl) ?_
    refine lv_aload_n hx hb dL_law_19 rfl (lv_at hl 1 rfl) ?_
    obtain ⟨x1, e1⟩ : ∃ y : Int32, y = Int32.ofNat Lx := ⟨_, rfl⟩
    have t1 : x1.toInt = (Lx : Int) := by rw [e1]; exact Int32.toInt_ofNat_of_lt (by omega)
    refine va_slen hx hb hX hbl hbA hW.2.2.1 dL_law_20 ?_
    refine lv_as x1 e1.symm ?_
    refine lv_iconst (v := 5) hx hb dL_law_21 (by decide) ?_
    refine lv_isub hx hb dL_law_22 ?_
    refine lv_topi (fun x2 (e2 : x2 = x1 - 5) => ?_)
    try have t2 : x2.toInt = x1.toInt - 5 := tsub e2 rfl kp5 (by omega)
    refine lv_icmp_gt (tgt := 1395) hx hb dL_law_23 (by decide) (fun c3 => ?_) (fun c3 => ?_)
    · have c3 : x2.toInt < i.toInt := tlt rfl rfl c3
      refine lv_iconst (v := 1) hx hb dL_law_1395 (by decide) ?_
      refine va_forget (fun q hq => hA _ (hW.2.2.1.2.2 q hq)) ?_
      refine W.widen (k := 600000) (n := 7302250) (by omega) (by omega) ?_
      exact lw_ret hx hb hr hlocks dL_law_1396
    · have c3 : i.toInt ≤ x2.toInt := tnlt rfl rfl c3
      refine lv_aload_n hx hb dL_law_26 rfl (lv_at hl 1 rfl) ?_
      refine lv_iload_n hx hb dL_law_27 rfl (lv_at hl 0 rfl) ?_
      have hin : vp_in i Lx := tin rfl (by omega)
      refine va_sld hx hb hX hbl hbA hW.2.2.1 hin dL_law_28 ?_
      refine lv_topi (fun x4 (e4 : x4 = xs i.toNatClampNeg) => ?_)
      refine lv_bipush (v := 63) hx hb dL_law_29 (by decide) ?_
      refine lv_iand hx hb dL_law_31 ?_
      refine lv_topi (fun x5 (e5 : x5 = x4 &&& 63) => ?_)
      rcases Int.lt_or_le x5.toInt 0 with c6 | c6
      · refine lv_tableOut (tgt := 1389) hx hb dL_law_32 (Or.inl c6) (by decide) ?_
        obtain ⟨x7, e7⟩ : ∃ y : Int32, y = i + 5 := ⟨_, rfl⟩
        refine lv_iinc (v := x7) (lv' := [(3, .int x7), (0, .ref b), (1, .ref (g.2.2.1 12)), (2, .ref (g.2.2.1 13))]) hx hb dL_law_1389 hl (k := 0) rfl (by rw [e7]; rfl) (by decide) rfl (fun ls hl => ?_)
        try have t7 : x7.toInt = i.toInt + 5 := tadd e7 rfl kp5 (by omega)
        refine lv_goto (tgt := 18) hx hb dL_law_1392 (by decide) ?_
        refine W.widen (k := 1000 + 10 * (k + 1)) (n := 200000 + 20100 * (k + 1)) (by omega) (by omega) ?_
        exact ih (k + 1) x7 J L I P E N dy H locs ls (by omega) (by omega) (by omega) hwf hwm hnow hrl hac hrel0 hrel1 hrel2 hrel3 hrel4 hrel5 hrel6 hrel7 hrel8 hrel9 hrel10 hrel11 hrel12 hrel13 hrel14 hrel15 hrel16 hrel17 hrel18 hrel19 hrel20 hrel21 hrel22 hrel23 hrel24 hrel25 hrel26 hrel27 hrel28 hrel29 hrel30 (tol_s (a := J 13 49) (k := k) hk64 (Or.inl rfl) hrel31) hrel32 hrel33 hrel34 hrel35 hrel36 hrel37 hrel38 hrel39 hrel40 hrel41 hrel42 hrel43 hrel44 hW (lv_sub hl [0, 1, 2, 3] rfl)
      · rcases Int.lt_or_le 36 x5.toInt with c6b | c6b
        · refine lv_tableOut (tgt := 1389) hx hb dL_law_32 (Or.inr c6b) (by decide) ?_
          obtain ⟨x8, e8⟩ : ∃ y : Int32, y = i + 5 := ⟨_, rfl⟩
          refine lv_iinc (v := x8) (lv' := [(3, .int x8), (0, .ref b), (1, .ref (g.2.2.1 12)), (2, .ref (g.2.2.1 13))]) hx hb dL_law_1389 hl (k := 0) rfl (by rw [e8]; rfl) (by decide) rfl (fun ls hl => ?_)
          try have t8 : x8.toInt = i.toInt + 5 := tadd e8 rfl kp5 (by omega)
          refine lv_goto (tgt := 18) hx hb dL_law_1392 (by decide) ?_
          refine W.widen (k := 1000 + 10 * (k + 1)) (n := 200000 + 20100 * (k + 1)) (by omega) (by omega) ?_
          exact ih (k + 1) x8 J L I P E N dy H locs ls (by omega) (by omega) (by omega) hwf hwm hnow hrl hac hrel0 hrel1 hrel2 hrel3 hrel4 hrel5 hrel6 hrel7 hrel8 hrel9 hrel10 hrel11 hrel12 hrel13 hrel14 hrel15 hrel16 hrel17 hrel18 hrel19 hrel20 hrel21 hrel22 hrel23 hrel24 hrel25 hrel26 hrel27 hrel28 hrel29 hrel30 (tol_s (a := J 13 49) (k := k) hk64 (Or.inl rfl) hrel31) hrel32 hrel33 hrel34 hrel35 hrel36 hrel37 hrel38 hrel39 hrel40 hrel41 hrel42 hrel43 hrel44 hW (lv_sub hl [0, 1, 2, 3] rfl)
        · rcases (show x5.toInt = 0 ∨ x5.toInt = 1 ∨ x5.toInt = 2 ∨ x5.toInt = 3 ∨ x5.toInt = 4 ∨ x5.toInt = 5 ∨ x5.toInt = 6 ∨ x5.toInt = 7 ∨ x5.toInt = 8 ∨ x5.toInt = 9 ∨ x5.toInt = 10 ∨ x5.toInt = 11 ∨ x5.toInt = 12 ∨ x5.toInt = 13 ∨ x5.toInt = 14 ∨ x5.toInt = 15 ∨ x5.toInt = 16 ∨ x5.toInt = 17 ∨ x5.toInt = 18 ∨ x5.toInt = 19 ∨ x5.toInt = 20 ∨ x5.toInt = 21 ∨ x5.toInt = 22 ∨ x5.toInt = 23 ∨ x5.toInt = 24 ∨ x5.toInt = 25 ∨ x5.toInt = 26 ∨ x5.toInt = 27 ∨ x5.toInt = 28 ∨ x5.toInt = 29 ∨ x5.toInt = 30 ∨ x5.toInt = 31 ∨ x5.toInt = 32 ∨ x5.toInt = 33 ∨ x5.toInt = 34 ∨ x5.toInt = 35 ∨ x5.toInt = 36 by omega) with c6k | c6k | c6k | c6k | c6k | c6k | c6k | c6k | c6k | c6k | c6k | c6k | c6k | c6k | c6k | c6k | c6k | c6k | c6k | c6k | c6k | c6k | c6k | c6k | c6k | c6k | c6k | c6k | c6k | c6k | c6k | c6k | c6k | c6k | c6k | c6k | c6k
          · refine lv_tableIn (off := 164) (tgt := 196) hx hb dL_law_32 (Int.not_lt.mpr c6) (Int.not_lt.mpr c6b) (by rw [c6k]; rfl) (by decide) ?_
            refine lv_aload_n hx hb dL_law_196 rfl (lv_at hl 2 rfl) ?_
            refine lv_aload_n hx hb dL_law_197 rfl (lv_at hl 1 rfl) ?_
            refine lv_iload_n hx hb dL_law_198 rfl (lv_at hl 0 rfl) ?_
            refine lv_iconst (v := 1) hx hb dL_law_199 (by decide) ?_
            refine lv_iadd hx hb dL_law_200 ?_
            refine lv_topi (fun x9 (e9 : x9 = i + 1) => ?_)
            try have t9 : x9.toInt = i.toInt + 1 := tadd e9 rfl kp1 (by omega)
            have hin : vp_in x9 Lx := tin rfl (by omega)
            refine va_sld hx hb hX hbl hbA hW.2.2.1 hin dL_law_201 ?_
            refine lv_topi (fun x10 (e10 : x10 = xs x9.toNatClampNeg) => ?_)
            refine ci2_ C (WB_L hW) (runV (x := g.2.2.1 12) (As := [.int x10]) (rest := []) (T := ((J, L, I, P, E, N), sgX g ++ dy)) C (WB_L hW) (c_X11_pass_e l g J L I P E N dy H.size x10 hwf ⟨hnow.1, hnow.2.1⟩ hnow.2.2) mi_X11_pass tw_407 (recv_ (T := ((J, L, I, P, E, N), sgX g ++ dy)) C (WB_L hW) (mx_ rfl) rfl rfl) ⟨rfl, rfl, Nat.le_of_ble_eq_true rfl, Nat.le_of_ble_eq_true rfl⟩ rfl hl.1 rfl (Nat.le_of_ble_eq_true rfl) dL_law_202 ⟨by show 1000 + 10 * k + 10 ≤ 600000; omega, by show 200000 + 20100 * k + 20100 ≤ 7302250; omega⟩) (fun r11 u11 H locs hp11 hB hk hS => ?_)
            have hW : WB g A s.heap H locs ((hv J [42] [(3, 1), (3, 2), (3, 3), (27, 0), (27, 2)] u11.1), L, (hv I [9] [] u11.2.1), (hv P [9, 37] [] u11.2.2.1), (hv1 E [27] u11.2.2.2.1), u11.2.2.2.2.1) ((sgX g ++ u11.2.2.2.2.2) ++ sgM g) := joinL hW hB hk hS (frsub C (WB_L hW)) (okM hW (fun r h => hv_m (J := J) (R := [42]) (F := [(3, 1), (3, 2), (3, 3), (27, 0), (27, 2)]) rfl rfl h) (fun r h => rfl))
            obtain ⟨hc11, hwf, hdd11, hf11_0, hf11_1⟩ := hp11
            have hnow := hf11_0
            refine lv_pop hx hb dL_law_205 rfl ?_
            refine lv_aload_n hx hb dL_law_206 rfl (lv_at hl 3 rfl) ?_
            refine lv_aload_n hx hb dL_law_207 rfl (lv_at hl 1 rfl) ?_
            refine lv_iload_n hx hb dL_law_208 rfl (lv_at hl 0 rfl) ?_
            refine lv_iconst (v := 1) hx hb dL_law_209 (by decide) ?_
            refine lv_iadd hx hb dL_law_210 ?_
            refine lv_topi (fun x12 (e12 : x12 = i + 1) => ?_)
            try have t12 : x12.toInt = i.toInt + 1 := tadd e12 rfl kp1 (by omega)
            have hin : vp_in x12 Lx := tin rfl (by omega)
            refine va_sld hx hb hX hbl hbA hW.2.2.1 hin dL_law_211 ?_
            refine lv_as x10 (by rw [e10, e9, e12]) ?_
            refine ci2_ C (WB_R hW) (runV (x := g.2.2.1 13) (As := [.int x10]) (rest := []) (T := (((hv J [42] [(3, 1), (3, 2), (3, 3), (27, 0), (27, 2)] u11.1), L, (hv I [9] [] u11.2.1), (hv P [9, 37] [] u11.2.2.1), (hv1 E [27] u11.2.2.2.1), u11.2.2.2.2.1), sgM g)) C (WB_R hW) (c_X12_pass_e l g (hv J [42] [(3, 1), (3, 2), (3, 3), (27, 0), (27, 2)] u11.1) L (hv I [9] [] u11.2.1) (hv P [9, 37] [] u11.2.2.1) (hv1 E [27] u11.2.2.2.1) u11.2.2.2.2.1 H.size x10 hwm) mi_X12_pass tw_1235 (recv_ (T := (((hv J [42] [(3, 1), (3, 2), (3, 3), (27, 0), (27, 2)] u11.1), L, (hv I [9] [] u11.2.1), (hv P [9, 37] [] u11.2.2.1), (hv1 E [27] u11.2.2.2.1), u11.2.2.2.2.1), sgM g)) C (WB_R hW) (mm_ rfl) rfl rfl) ⟨rfl, rfl, Nat.le_of_ble_eq_true rfl, Nat.le_of_ble_eq_true rfl⟩ rfl hl.1 rfl (Nat.le_of_ble_eq_true rfl) dL_law_212 ⟨by show 1000 + 10 * k + 10 + 0 ≤ 600000; omega, by show 200000 + 20100 * k + 20100 + 0 ≤ 7302250; omega⟩) (fun r13 u13 H locs hp13 hB hk hS => ?_)
            have hW : WB g A s.heap H locs ((hv (hv J [42] [(3, 1), (3, 2), (3, 3), (27, 0), (27, 2)] u11.1) [100, 116, 117, 118, 119, 120] [(13, 31)] u13), L, (hv I [9] [] u11.2.1), (hv P [9, 37] [] u11.2.2.1), (hv1 E [27] u11.2.2.2.1), u11.2.2.2.2.1) ((sgX g ++ u11.2.2.2.2.2) ++ sgM g) := joinR hW hB hk hS (frsub C (WB_R hW)) (fun x hx => cel_x (hv_x rfl rfl (notm hW x hx)))
            obtain ⟨hwm, hc13⟩ : WM (hv (hv J [42] [(3, 1), (3, 2), (3, 3), (27, 0), (27, 2)] u11.1) [100, 116, 117, 118, 119, 120] [(13, 31)] u13) ∧ ((r13.toInt = (-4) ∧ (x10.toInt < 1) ∧ u13 13 31 = J 13 31 ∧ u13 116 = J 116 ∧ u13 117 = J 117 ∧ u13 118 = J 118 ∧ u13 119 = J 119 ∧ u13 120 = J 120) ∨ (r13.toInt = (-6) ∧ (1 ≤ x10.toInt ∧ 9999 - (J 13 31).toInt < x10.toInt) ∧ u13 13 31 = J 13 31 ∧ u13 116 = J 116 ∧ u13 117 = J 117 ∧ u13 118 = J 118 ∧ u13 119 = J 119 ∧ u13 120 = J 120) ∨ (r13.toInt = (J 13 31).toInt + x10.toInt ∧ (1 ≤ x10.toInt ∧ x10.toInt ≤ 9999 - (J 13 31).toInt) ∧ (u13 13 31).toInt = (J 13 31).toInt + x10.toInt ∧ FILL (J 116) (u13 116) (J 13 31).toInt ((J 13 31).toInt + x10.toInt) 6 ∧ FILL (J 117) (u13 117) (J 13 31).toInt ((J 13 31).toInt + x10.toInt) (-9) ∧ FILL (J 118) (u13 118) (J 13 31).toInt ((J 13 31).toInt + x10.toInt) 0 ∧ FILL (J 119) (u13 119) (J 13 31).toInt ((J 13 31).toInt + x10.toInt) (-9) ∧ FILL (J 120) (u13 120) (J 13 31).toInt ((J 13 31).toInt + x10.toInt) (J 13 33))) := hp13
            refine lv_pop hx hb dL_law_215 rfl ?_
            refine lv_goto (tgt := 1389) hx hb dL_law_216 (by decide) ?_
            obtain ⟨x14, e14⟩ : ∃ y : Int32, y = i + 5 := ⟨_, rfl⟩
            refine lv_iinc (v := x14) (lv' := [(3, .int x14), (0, .ref b), (1, .ref (g.2.2.1 12)), (2, .ref (g.2.2.1 13))]) hx hb dL_law_1389 hl (k := 0) rfl (by rw [e14]; rfl) (by decide) rfl (fun ls hl => ?_)
            try have t14 : x14.toInt = i.toInt + 5 := tadd e14 rfl kp5 (by omega)
            refine lv_goto (tgt := 18) hx hb dL_law_1392 (by decide) ?_
            refine W.widen (k := 1000 + 10 * (k + 1)) (n := 200000 + 20100 * (k + 1)) (by omega) (by omega) ?_
            obtain ⟨hnew0, hnew9, hnew16, hnew32, hnew33⟩ := rel_pass k g J I P E N dy r11 x10 u11 r13 u13 hk64 hwf0 hwm0 hnow0 hrl0 hac0 hrel0 hrel1 hrel2 hrel3 hrel4 hrel5 hrel6 hrel7 hrel8 hrel9 hrel10 hrel11 hrel12 hrel13 hrel14 hrel15 hrel16 hrel17 hrel18 hrel19 hrel20 hrel21 hrel22 hrel23 hrel24 hrel25 hrel26 hrel27 hrel28 hrel29 hrel30 hrel31 hrel32 hrel33 hrel34 hrel35 hrel36 hrel37 hrel38 hrel39 hrel40 hrel41 hrel42 hrel43 hrel44 hc11 hf11_0 hf11_1 hc13
            exact ih (k + 1) x14 (hv (hv J [42] [(3, 1), (3, 2), (3, 3), (27, 0), (27, 2)] u11.1) [100, 116, 117, 118, 119, 120] [(13, 31)] u13) L (hv I [9] [] u11.2.1) (hv P [9, 37] [] u11.2.2.1) (hv1 E [27] u11.2.2.2.1) u11.2.2.2.2.1 u11.2.2.2.2.2 H locs ls (by omega) (by omega) (by omega) hwf hwm hnow hrl hac hnew0 hrel1 hrel2 hrel3 hrel4 hrel5 hrel6 hrel7 hrel8 hnew9 hrel10 hrel11 hrel12 hrel13 hrel14 hrel15 hnew16 hrel17 hrel18 hrel19 hrel20 hrel21 hrel22 hrel23 hrel24 hrel25 hrel26 hrel27 hrel28 hrel29 hrel30 (tol_s (a := J 13 49) (k := k) hk64 (Or.inl rfl) hrel31) hnew32 hnew33 hrel34 hrel35 hrel36 hrel37 hrel38 hrel39 hrel40 hrel41 hrel42 hrel43 hrel44 hW (lv_sub hl [0, 1, 2, 3] rfl)
          · refine lv_tableIn (off := 187) (tgt := 219) hx hb dL_law_32 (Int.not_lt.mpr c6) (Int.not_lt.mpr c6b) (by rw [c6k]; rfl) (by decide) ?_
            refine lv_aload_n hx hb dL_law_219 rfl (lv_at hl 2 rfl) ?_
            refine lv_aload_n hx hb dL_law_220 rfl (lv_at hl 1 rfl) ?_
            refine lv_iload_n hx hb dL_law_221 rfl (lv_at hl 0 rfl) ?_
            refine lv_iconst (v := 1) hx hb dL_law_222 (by decide) ?_
            refine lv_iadd hx hb dL_law_223 ?_
            refine lv_topi (fun x15 (e15 : x15 = i + 1) => ?_)
            try have t15 : x15.toInt = i.toInt + 1 := tadd e15 rfl kp1 (by omega)
            have hin : vp_in x15 Lx := tin rfl (by omega)
            refine va_sld hx hb hX hbl hbA hW.2.2.1 hin dL_law_224 ?_
            refine lv_topi (fun x16 (e16 : x16 = xs x15.toNatClampNeg) => ?_)
            refine lv_aload_n hx hb dL_law_225 rfl (lv_at hl 1 rfl) ?_
            refine lv_iload_n hx hb dL_law_226 rfl (lv_at hl 0 rfl) ?_
            refine lv_iconst (v := 2) hx hb dL_law_227 (by decide) ?_
            refine lv_iadd hx hb dL_law_228 ?_
            refine lv_topi (fun x17 (e17 : x17 = i + 2) => ?_)
            try have t17 : x17.toInt = i.toInt + 2 := tadd e17 rfl kp2 (by omega)
            have hin : vp_in x17 Lx := tin rfl (by omega)
            refine va_sld hx hb hX hbl hbA hW.2.2.1 hin dL_law_229 ?_
            refine lv_topi (fun x18 (e18 : x18 = xs x17.toNatClampNeg) => ?_)
            refine ci2_ C (WB_L hW) (runV (x := g.2.2.1 12) (As := [.int x16, .int x18]) (rest := []) (T := ((J, L, I, P, E, N), sgX g ++ dy)) C (WB_L hW) (c_X11_node_q l g J L I P E N dy H.size x16 x18 hwf) mi_X11_node tw_459 (recv_ (T := ((J, L, I, P, E, N), sgX g ++ dy)) C (WB_L hW) (mx_ rfl) rfl rfl) ⟨rfl, rfl, Nat.le_of_ble_eq_true rfl, Nat.le_of_ble_eq_true rfl⟩ rfl hl.1 rfl (Nat.le_of_ble_eq_true rfl) dL_law_230 ⟨by show 1000 + 10 * k + 10 ≤ 600000; omega, by show 200000 + 20100 * k + 20100 ≤ 7302250; omega⟩) (fun r19 u19 H locs hp19 hB hk hS => ?_)
            have hW : WB g A s.heap H locs ((hv J [42] [(20, 0), (20, 2)] u19.1), L, (hv I [6] [] u19.2.1), (hv P [6, 30] [] u19.2.2.1), (hv1 E [20] u19.2.2.2.1), u19.2.2.2.2.1) ((sgX g ++ u19.2.2.2.2.2) ++ sgM g) := joinL hW hB hk hS (frsub C (WB_L hW)) (okM hW (fun r h => hv_m (J := J) (R := [42]) (F := [(20, 0), (20, 2)]) rfl rfl h) (fun r h => rfl))
            obtain ⟨hc19, hwf, hdd19, hf19_0⟩ := hp19
            refine lv_pop hx hb dL_law_233 rfl ?_
            refine lv_aload_n hx hb dL_law_234 rfl (lv_at hl 3 rfl) ?_
            refine lv_aload_n hx hb dL_law_235 rfl (lv_at hl 1 rfl) ?_
            refine lv_iload_n hx hb dL_law_236 rfl (lv_at hl 0 rfl) ?_
            refine lv_iconst (v := 1) hx hb dL_law_237 (by decide) ?_
            refine lv_iadd hx hb dL_law_238 ?_
            refine lv_topi (fun x20 (e20 : x20 = i + 1) => ?_)
            try have t20 : x20.toInt = i.toInt + 1 := tadd e20 rfl kp1 (by omega)
            have hin : vp_in x20 Lx := tin rfl (by omega)
            refine va_sld hx hb hX hbl hbA hW.2.2.1 hin dL_law_239 ?_
            refine lv_as x16 (by rw [e16, e15, e20]) ?_
            refine lv_aload_n hx hb dL_law_240 rfl (lv_at hl 1 rfl) ?_
            refine lv_iload_n hx hb dL_law_241 rfl (lv_at hl 0 rfl) ?_
            refine lv_iconst (v := 2) hx hb dL_law_242 (by decide) ?_
            refine lv_iadd hx hb dL_law_243 ?_
            refine lv_topi (fun x21 (e21 : x21 = i + 2) => ?_)
            try have t21 : x21.toInt = i.toInt + 2 := tadd e21 rfl kp2 (by omega)
            have hin : vp_in x21 Lx := tin rfl (by omega)
            refine va_sld hx hb hX hbl hbA hW.2.2.1 hin dL_law_244 ?_
            refine lv_as x18 (by rw [e18, e17, e21]) ?_
            refine ci2_ C (WB_R hW) (runV (x := g.2.2.1 13) (As := [.int x16, .int x18]) (rest := []) (T := (((hv J [42] [(20, 0), (20, 2)] u19.1), L, (hv I [6] [] u19.2.1), (hv P [6, 30] [] u19.2.2.1), (hv1 E [20] u19.2.2.2.1), u19.2.2.2.2.1), sgM g)) C (WB_R hW) (c_X12_node_t l g (hv J [42] [(20, 0), (20, 2)] u19.1) L (hv I [6] [] u19.2.1) (hv P [6, 30] [] u19.2.2.1) (hv1 E [20] u19.2.2.2.1) u19.2.2.2.2.1 H.size x16 x18 hwm) mi_X12_node tw_1247 (recv_ (T := (((hv J [42] [(20, 0), (20, 2)] u19.1), L, (hv I [6] [] u19.2.1), (hv P [6, 30] [] u19.2.2.1), (hv1 E [20] u19.2.2.2.1), u19.2.2.2.2.1), sgM g)) C (WB_R hW) (mm_ rfl) rfl rfl) ⟨rfl, rfl, Nat.le_of_ble_eq_true rfl, Nat.le_of_ble_eq_true rfl⟩ rfl hl.1 rfl (Nat.le_of_ble_eq_true rfl) dL_law_245 ⟨by show 1000 + 10 * k + 10 + 0 ≤ 600000; omega, by show 200000 + 20100 * k + 20100 + 0 ≤ 7302250; omega⟩) (fun r22 u22 H locs hp22 hB hk hS => ?_)
            have hW : WB g A s.heap H locs ((hv (hv J [42] [(20, 0), (20, 2)] u19.1) [100, 101, 102] [(13, 32), (13, 49)] u22), L, (hv I [6] [] u19.2.1), (hv P [6, 30] [] u19.2.2.1), (hv1 E [20] u19.2.2.2.1), u19.2.2.2.2.1) ((sgX g ++ u19.2.2.2.2.2) ++ sgM g) := joinR hW hB hk hS (frsub C (WB_R hW)) (fun x hx => cel_x (hv_x rfl rfl (notm hW x hx)))
            obtain ⟨hwm, hc22, hf22_0⟩ : WM (hv (hv J [42] [(20, 0), (20, 2)] u19.1) [100, 101, 102] [(13, 32), (13, 49)] u22) ∧ ((r22.toInt = (-1) ∧ (¬ (0 ≤ x16.toInt ∧ x16.toInt < (J 13 32).toInt)) ∧ u22 13 32 = J 13 32 ∧ u22 101 = J 101 ∧ u22 102 = J 102) ∨ (r22.toInt = (-4) ∧ (0 ≤ x16.toInt ∧ x16.toInt < (J 13 32).toInt ∧ x18.toInt < 1) ∧ u22 13 32 = J 13 32 ∧ u22 101 = J 101 ∧ u22 102 = J 102) ∨ (r22.toInt = (-6) ∧ (0 ≤ x16.toInt ∧ x16.toInt < (J 13 32).toInt ∧ 1 ≤ x18.toInt ∧ (99 < x18.toInt ∨ (J 13 32).toInt = 20)) ∧ u22 13 32 = J 13 32 ∧ u22 101 = J 101 ∧ u22 102 = J 102) ∨ (r22.toInt = (J 13 32).toInt ∧ (0 ≤ x16.toInt ∧ x16.toInt < (J 13 32).toInt ∧ 1 ≤ x18.toInt ∧ x18.toInt ≤ 99 ∧ (J 13 32).toInt ≤ 19) ∧ (u22 13 32).toInt = (J 13 32).toInt + 1 ∧ u22 101 = up2 J 101 (J 13 32).toNatClampNeg x16 101 ∧ u22 102 = up2 J 102 (J 13 32).toNatClampNeg x18 102)) ∧ ((u22 13 49 = J 13 49 ∧ u22 13 32 = J 13 32 ∧ u22 101 = J 101 ∧ u22 102 = J 102) ∨ u22 13 49 = J 13 49 + 1) := hp22
            refine lv_pop hx hb dL_law_248 rfl ?_
            refine lv_goto (tgt := 1389) hx hb dL_law_249 (by decide) ?_
            obtain ⟨x23, e23⟩ : ∃ y : Int32, y = i + 5 := ⟨_, rfl⟩
            refine lv_iinc (v := x23) (lv' := [(3, .int x23), (0, .ref b), (1, .ref (g.2.2.1 12)), (2, .ref (g.2.2.1 13))]) hx hb dL_law_1389 hl (k := 0) rfl (by rw [e23]; rfl) (by decide) rfl (fun ls hl => ?_)
            try have t23 : x23.toInt = i.toInt + 5 := tadd e23 rfl kp5 (by omega)
            refine lv_goto (tgt := 18) hx hb dL_law_1392 (by decide) ?_
            refine W.widen (k := 1000 + 10 * (k + 1)) (n := 200000 + 20100 * (k + 1)) (by omega) (by omega) ?_
            obtain ⟨hnew11, hnew16, hnew20, hnew21, hnew22, hnew23, hnew24, hnew25, hnew27, hnew28, hnew32, hnew33, hnew35, hnew36, hnew37, hnew44⟩ := rel_node k g J I P E N dy r19 x16 u19 x18 r22 u22 hk64 hwf0 hwm0 hnow0 hrl0 hac0 hrel0 hrel1 hrel2 hrel3 hrel4 hrel5 hrel6 hrel7 hrel8 hrel9 hrel10 hrel11 hrel12 hrel13 hrel14 hrel15 hrel16 hrel17 hrel18 hrel19 hrel20 hrel21 hrel22 hrel23 hrel24 hrel25 hrel26 hrel27 hrel28 hrel29 hrel30 hrel31 hrel32 hrel33 hrel34 hrel35 hrel36 hrel37 hrel38 hrel39 hrel40 hrel41 hrel42 hrel43 hrel44 hc19 hf19_0 hc22 hf22_0
            exact ih (k + 1) x23 (hv (hv J [42] [(20, 0), (20, 2)] u19.1) [100, 101, 102] [(13, 32), (13, 49)] u22) L (hv I [6] [] u19.2.1) (hv P [6, 30] [] u19.2.2.1) (hv1 E [20] u19.2.2.2.1) u19.2.2.2.2.1 u19.2.2.2.2.2 H locs ls (by omega) (by omega) (by omega) hwf hwm hnow hrl hac hrel0 hrel1 hrel2 hrel3 hrel4 hrel5 hrel6 hrel7 hrel8 hrel9 hrel10 hnew11 hrel12 hrel13 hrel14 hrel15 hnew16 hrel17 hrel18 hrel19 hnew20 hnew21 hnew22 hnew23 hnew24 hnew25 hrel26 hnew27 hnew28 hrel29 hrel30 (tol_s (a := J 13 49) (k := k) hk64 (hf22_0.imp (fun q => q.1) id) hrel31) hnew32 hnew33 hrel34 hnew35 hnew36 hnew37 hrel38 hrel39 hrel40 hrel41 hrel42 hrel43 hnew44 hW (lv_sub hl [0, 1, 2, 3] rfl)
          · refine lv_tableIn (off := 220) (tgt := 252) hx hb dL_law_32 (Int.not_lt.mpr c6) (Int.not_lt.mpr c6b) (by rw [c6k]; rfl) (by decide) ?_
            refine lv_aload_n hx hb dL_law_252 rfl (lv_at hl 2 rfl) ?_
            refine lv_aload_n hx hb dL_law_253 rfl (lv_at hl 1 rfl) ?_
            refine lv_iload_n hx hb dL_law_254 rfl (lv_at hl 0 rfl) ?_
            refine lv_iconst (v := 1) hx hb dL_law_255 (by decide) ?_
            refine lv_iadd hx hb dL_law_256 ?_
            refine lv_topi (fun x24 (e24 : x24 = i + 1) => ?_)
            try have t24 : x24.toInt = i.toInt + 1 := tadd e24 rfl kp1 (by omega)
            have hin : vp_in x24 Lx := tin rfl (by omega)
            refine va_sld hx hb hX hbl hbA hW.2.2.1 hin dL_law_257 ?_
            refine lv_topi (fun x25 (e25 : x25 = xs x24.toNatClampNeg) => ?_)
            refine lv_aload_n hx hb dL_law_258 rfl (lv_at hl 1 rfl) ?_
            refine lv_iload_n hx hb dL_law_259 rfl (lv_at hl 0 rfl) ?_
            refine lv_iconst (v := 2) hx hb dL_law_260 (by decide) ?_
            refine lv_iadd hx hb dL_law_261 ?_
            refine lv_topi (fun x26 (e26 : x26 = i + 2) => ?_)
            try have t26 : x26.toInt = i.toInt + 2 := tadd e26 rfl kp2 (by omega)
            have hin : vp_in x26 Lx := tin rfl (by omega)
            refine va_sld hx hb hX hbl hbA hW.2.2.1 hin dL_law_262 ?_
            refine lv_topi (fun x27 (e27 : x27 = xs x26.toNatClampNeg) => ?_)
            refine ci2_ C (WB_L hW) (runV (x := g.2.2.1 12) (As := [.int x25, .int x27]) (rest := []) (T := ((J, L, I, P, E, N), sgX g ++ dy)) C (WB_L hW) (c_X11_boost_e l g J L I P E N dy H.size x25 x27 hwf) mi_X11_boost tw_489 (recv_ (T := ((J, L, I, P, E, N), sgX g ++ dy)) C (WB_L hW) (mx_ rfl) rfl rfl) ⟨rfl, rfl, Nat.le_of_ble_eq_true rfl, Nat.le_of_ble_eq_true rfl⟩ rfl hl.1 rfl (Nat.le_of_ble_eq_true rfl) dL_law_263 ⟨by show 1000 + 10 * k + 0 ≤ 600000; omega, by show 200000 + 20100 * k + 0 ≤ 7302250; omega⟩) (fun r28 u28 H locs hp28 hB hk hS => ?_)
            have hW : WB g A s.heap H locs ((hv J [42] [] u28.1), L, (hv I [] [(6, 3)] u28.2), P, E, N) ((sgX g ++ dy) ++ sgM g) := joinL hW hB hk hS (frsub C (WB_L hW)) (okM hW (fun r h => hv_m (J := J) (R := [42]) (F := []) rfl rfl h) (fun r h => rfl))
            have hc28 : ((r28.toInt = (-1) ∧ (¬ (0 ≤ x25.toInt ∧ x25.toInt < (J 20 2).toInt)) ∧ u28.2 6 3 = I 6 3) ∨ (r28.toInt = (-4) ∧ (0 ≤ x25.toInt ∧ x25.toInt < (J 20 2).toInt ∧ x27.toInt < 0) ∧ u28.2 6 3 = I 6 3) ∨ (r28.toInt = (-6) ∧ (0 ≤ x25.toInt ∧ x25.toInt < (J 20 2).toInt ∧ 99 < x27.toInt) ∧ u28.2 6 3 = I 6 3) ∨ (r28 = I 6 3 (elt E P 20 x25.toNatClampNeg) ∧ (0 ≤ x25.toInt ∧ x25.toInt < (J 20 2).toInt ∧ 0 ≤ x27.toInt ∧ x27.toInt ≤ 99) ∧ (∀ b : Nat, b ≠ elt E P 20 x25.toNatClampNeg → u28.2 6 3 b = I 6 3 b) ∧ u28.2 6 3 (elt E P 20 x25.toNatClampNeg) = x27)) := hp28
            refine lv_pop hx hb dL_law_266 rfl ?_
            refine lv_aload_n hx hb dL_law_267 rfl (lv_at hl 3 rfl) ?_
            refine lv_aload_n hx hb dL_law_268 rfl (lv_at hl 1 rfl) ?_
            refine lv_iload_n hx hb dL_law_269 rfl (lv_at hl 0 rfl) ?_
            refine lv_iconst (v := 1) hx hb dL_law_270 (by decide) ?_
            refine lv_iadd hx hb dL_law_271 ?_
            refine lv_topi (fun x29 (e29 : x29 = i + 1) => ?_)
            try have t29 : x29.toInt = i.toInt + 1 := tadd e29 rfl kp1 (by omega)
            have hin : vp_in x29 Lx := tin rfl (by omega)
            refine va_sld hx hb hX hbl hbA hW.2.2.1 hin dL_law_272 ?_
            refine lv_as x25 (by rw [e25, e24, e29]) ?_
            refine lv_aload_n hx hb dL_law_273 rfl (lv_at hl 1 rfl) ?_
            refine lv_iload_n hx hb dL_law_274 rfl (lv_at hl 0 rfl) ?_
            refine lv_iconst (v := 2) hx hb dL_law_275 (by decide) ?_
            refine lv_iadd hx hb dL_law_276 ?_
            refine lv_topi (fun x30 (e30 : x30 = i + 2) => ?_)
            try have t30 : x30.toInt = i.toInt + 2 := tadd e30 rfl kp2 (by omega)
            have hin : vp_in x30 Lx := tin rfl (by omega)
            refine va_sld hx hb hX hbl hbA hW.2.2.1 hin dL_law_277 ?_
            refine lv_as x27 (by rw [e27, e26, e30]) ?_
            refine ci2_ C (WB_R hW) (runV (x := g.2.2.1 13) (As := [.int x25, .int x27]) (rest := []) (T := (((hv J [42] [] u28.1), L, (hv I [] [(6, 3)] u28.2), P, E, N), sgM g)) C (WB_R hW) (c_X12_boost_t l g (hv J [42] [] u28.1) L (hv I [] [(6, 3)] u28.2) P E N H.size x25 x27 hwm) mi_X12_boost tw_1261 (recv_ (T := (((hv J [42] [] u28.1), L, (hv I [] [(6, 3)] u28.2), P, E, N), sgM g)) C (WB_R hW) (mm_ rfl) rfl rfl) ⟨rfl, rfl, Nat.le_of_ble_eq_true rfl, Nat.le_of_ble_eq_true rfl⟩ rfl hl.1 rfl (Nat.le_of_ble_eq_true rfl) dL_law_278 ⟨by show 1000 + 10 * k + 0 + 0 ≤ 600000; omega, by show 200000 + 20100 * k + 0 + 0 ≤ 7302250; omega⟩) (fun r31 u31 H locs hp31 hB hk hS => ?_)
            have hW : WB g A s.heap H locs ((hv (hv J [42] [] u28.1) [100, 103] [(13, 49)] u31), L, (hv I [] [(6, 3)] u28.2), P, E, N) ((sgX g ++ dy) ++ sgM g) := joinR hW hB hk hS (frsub C (WB_R hW)) (fun x hx => cel_x (hv_x rfl rfl (notm hW x hx)))
            obtain ⟨hc31, hf31_0⟩ : ((r31.toInt = (-1) ∧ (¬ (0 ≤ x25.toInt ∧ x25.toInt < (J 13 32).toInt)) ∧ u31 103 = J 103) ∨ (r31.toInt = (-4) ∧ (0 ≤ x25.toInt ∧ x25.toInt < (J 13 32).toInt ∧ x27.toInt < 0) ∧ u31 103 = J 103) ∨ (r31.toInt = (-6) ∧ (0 ≤ x25.toInt ∧ x25.toInt < (J 13 32).toInt ∧ 99 < x27.toInt) ∧ u31 103 = J 103) ∨ (r31 = J 103 x25.toNatClampNeg ∧ (0 ≤ x25.toInt ∧ x25.toInt < (J 13 32).toInt ∧ 0 ≤ x27.toInt ∧ x27.toInt ≤ 99) ∧ u31 103 = up2 J 103 x25.toNatClampNeg x27 103)) ∧ ((u31 13 49 = J 13 49 ∧ u31 103 = J 103) ∨ u31 13 49 = J 13 49 + 1) := hp31
            refine lv_pop hx hb dL_law_281 rfl ?_
            refine lv_goto (tgt := 1389) hx hb dL_law_282 (by decide) ?_
            obtain ⟨x32, e32⟩ : ∃ y : Int32, y = i + 5 := ⟨_, rfl⟩
            refine lv_iinc (v := x32) (lv' := [(3, .int x32), (0, .ref b), (1, .ref (g.2.2.1 12)), (2, .ref (g.2.2.1 13))]) hx hb dL_law_1389 hl (k := 0) rfl (by rw [e32]; rfl) (by decide) rfl (fun ls hl => ?_)
            try have t32 : x32.toInt = i.toInt + 5 := tadd e32 rfl kp5 (by omega)
            refine lv_goto (tgt := 18) hx hb dL_law_1392 (by decide) ?_
            refine W.widen (k := 1000 + 10 * (k + 1)) (n := 200000 + 20100 * (k + 1)) (by omega) (by omega) ?_
            obtain ⟨hnew23, hnew24, hnew32, hnew38⟩ := rel_boost k g J I P E N dy r28 x25 u28 x27 r31 u31 hk64 hwf0 hwm0 hnow0 hrl0 hac0 hrel0 hrel1 hrel2 hrel3 hrel4 hrel5 hrel6 hrel7 hrel8 hrel9 hrel10 hrel11 hrel12 hrel13 hrel14 hrel15 hrel16 hrel17 hrel18 hrel19 hrel20 hrel21 hrel22 hrel23 hrel24 hrel25 hrel26 hrel27 hrel28 hrel29 hrel30 hrel31 hrel32 hrel33 hrel34 hrel35 hrel36 hrel37 hrel38 hrel39 hrel40 hrel41 hrel42 hrel43 hrel44 hc28 hc31 hf31_0
            exact ih (k + 1) x32 (hv (hv J [42] [] u28.1) [100, 103] [(13, 49)] u31) L (hv I [] [(6, 3)] u28.2) P E N dy H locs ls (by omega) (by omega) (by omega) hwf hwm hnow hrl hac hrel0 hrel1 hrel2 hrel3 hrel4 hrel5 hrel6 hrel7 hrel8 hrel9 hrel10 hrel11 hrel12 hrel13 hrel14 hrel15 hrel16 hrel17 hrel18 hrel19 hrel20 hrel21 hrel22 hnew23 hnew24 hrel25 hrel26 hrel27 hrel28 hrel29 hrel30 (tol_s (a := J 13 49) (k := k) hk64 (hf31_0.imp (fun q => q.1) id) hrel31) hnew32 hrel33 hrel34 hrel35 hrel36 hrel37 hnew38 hrel39 hrel40 hrel41 hrel42 hrel43 hrel44 hW (lv_sub hl [0, 1, 2, 3] rfl)
          · refine lv_tableIn (off := 253) (tgt := 285) hx hb dL_law_32 (Int.not_lt.mpr c6) (Int.not_lt.mpr c6b) (by rw [c6k]; rfl) (by decide) ?_
            refine lv_aload_n hx hb dL_law_285 rfl (lv_at hl 2 rfl) ?_
            refine lv_aload_n hx hb dL_law_286 rfl (lv_at hl 1 rfl) ?_
            refine lv_iload_n hx hb dL_law_287 rfl (lv_at hl 0 rfl) ?_
            refine lv_iconst (v := 1) hx hb dL_law_288 (by decide) ?_
            refine lv_iadd hx hb dL_law_289 ?_
            refine lv_topi (fun x33 (e33 : x33 = i + 1) => ?_)
            try have t33 : x33.toInt = i.toInt + 1 := tadd e33 rfl kp1 (by omega)
            have hin : vp_in x33 Lx := tin rfl (by omega)
            refine va_sld hx hb hX hbl hbA hW.2.2.1 hin dL_law_290 ?_
            refine lv_topi (fun x34 (e34 : x34 = xs x33.toNatClampNeg) => ?_)
            refine ci2_ C (WB_L hW) (runV (x := g.2.2.1 12) (As := [.int x34]) (rest := []) (T := ((J, L, I, P, E, N), sgX g ++ dy)) C (WB_L hW) (c_X11_weather l g J L I P E N dy H.size x34 hwf) mi_X11_weather tw_493 (recv_ (T := ((J, L, I, P, E, N), sgX g ++ dy)) C (WB_L hW) (mx_ rfl) rfl rfl) ⟨rfl, rfl, Nat.le_of_ble_eq_true rfl, Nat.le_of_ble_eq_true rfl⟩ rfl hl.1 rfl (Nat.le_of_ble_eq_true rfl) dL_law_291 ⟨by show 1000 + 10 * k + 0 ≤ 600000; omega, by show 200000 + 20100 * k + 0 ≤ 7302250; omega⟩) (fun r35 u35 H locs hp35 hB hk hS => ?_)
            have hW : WB g A s.heap H locs ((hv J [42] [(4, 4)] u35), L, I, P, E, N) ((sgX g ++ dy) ++ sgM g) := joinL hW hB hk hS (frsub C (WB_L hW)) (okM hW (fun r h => hv_m (J := J) (R := [42]) (F := [(4, 4)]) rfl rfl h) (fun r h => rfl))
            have hc35 : ((r35.toInt = (-4) ∧ (x34.toInt < 0) ∧ u35 4 4 = J 4 4) ∨ (r35.toInt = (-6) ∧ (20 < x34.toInt) ∧ u35 4 4 = J 4 4) ∨ (r35 = J 4 4 ∧ (0 ≤ x34.toInt ∧ x34.toInt ≤ 20) ∧ u35 4 4 = x34)) := hp35
            refine lv_pop hx hb dL_law_294 rfl ?_
            refine lv_aload_n hx hb dL_law_295 rfl (lv_at hl 3 rfl) ?_
            refine lv_aload_n hx hb dL_law_296 rfl (lv_at hl 1 rfl) ?_
            refine lv_iload_n hx hb dL_law_297 rfl (lv_at hl 0 rfl) ?_
            refine lv_iconst (v := 1) hx hb dL_law_298 (by decide) ?_
            refine lv_iadd hx hb dL_law_299 ?_
            refine lv_topi (fun x36 (e36 : x36 = i + 1) => ?_)
            try have t36 : x36.toInt = i.toInt + 1 := tadd e36 rfl kp1 (by omega)
            have hin : vp_in x36 Lx := tin rfl (by omega)
            refine va_sld hx hb hX hbl hbA hW.2.2.1 hin dL_law_300 ?_
            refine lv_as x34 (by rw [e34, e33, e36]) ?_
            refine ci2_ C (WB_R hW) (runV (x := g.2.2.1 13) (As := [.int x34]) (rest := []) (T := (((hv J [42] [(4, 4)] u35), L, I, P, E, N), sgM g)) C (WB_R hW) (c_X12_weather l g (hv J [42] [(4, 4)] u35) L I P E N H.size x34 hwm) mi_X12_weather tw_1265 (recv_ (T := (((hv J [42] [(4, 4)] u35), L, I, P, E, N), sgM g)) C (WB_R hW) (mm_ rfl) rfl rfl) ⟨rfl, rfl, Nat.le_of_ble_eq_true rfl, Nat.le_of_ble_eq_true rfl⟩ rfl hl.1 rfl (Nat.le_of_ble_eq_true rfl) dL_law_301 ⟨by show 1000 + 10 * k + 0 + 0 ≤ 600000; omega, by show 200000 + 20100 * k + 0 + 0 ≤ 7302250; omega⟩) (fun r37 u37 H locs hp37 hB hk hS => ?_)
            have hW : WB g A s.heap H locs ((hv (hv J [42] [(4, 4)] u35) [100] [(13, 33)] u37), L, I, P, E, N) ((sgX g ++ dy) ++ sgM g) := joinR hW hB hk hS (frsub C (WB_R hW)) (fun x hx => cel_x (hv_x rfl rfl (notm hW x hx)))
            have hc37 : ((r37.toInt = (-4) ∧ (x34.toInt < 0) ∧ u37 13 33 = J 13 33) ∨ (r37.toInt = (-6) ∧ (20 < x34.toInt) ∧ u37 13 33 = J 13 33) ∨ (r37 = J 13 33 ∧ (0 ≤ x34.toInt ∧ x34.toInt ≤ 20) ∧ u37 13 33 = x34)) := hp37
            refine lv_pop hx hb dL_law_304 rfl ?_
            refine lv_goto (tgt := 1389) hx hb dL_law_305 (by decide) ?_
            obtain ⟨x38, e38⟩ : ∃ y : Int32, y = i + 5 := ⟨_, rfl⟩
            refine lv_iinc (v := x38) (lv' := [(3, .int x38), (0, .ref b), (1, .ref (g.2.2.1 12)), (2, .ref (g.2.2.1 13))]) hx hb dL_law_1389 hl (k := 0) rfl (by rw [e38]; rfl) (by decide) rfl (fun ls hl => ?_)
            try have t38 : x38.toInt = i.toInt + 5 := tadd e38 rfl kp5 (by omega)
            refine lv_goto (tgt := 18) hx hb dL_law_1392 (by decide) ?_
            refine W.widen (k := 1000 + 10 * (k + 1)) (n := 200000 + 20100 * (k + 1)) (by omega) (by omega) ?_
            obtain ⟨hnew1, hnew39⟩ := rel_weather k g J I P E N dy r35 x34 u35 r37 u37 hk64 hwf0 hwm0 hnow0 hrl0 hac0 hrel0 hrel1 hrel2 hrel3 hrel4 hrel5 hrel6 hrel7 hrel8 hrel9 hrel10 hrel11 hrel12 hrel13 hrel14 hrel15 hrel16 hrel17 hrel18 hrel19 hrel20 hrel21 hrel22 hrel23 hrel24 hrel25 hrel26 hrel27 hrel28 hrel29 hrel30 hrel31 hrel32 hrel33 hrel34 hrel35 hrel36 hrel37 hrel38 hrel39 hrel40 hrel41 hrel42 hrel43 hrel44 hc35 hc37
            exact ih (k + 1) x38 (hv (hv J [42] [(4, 4)] u35) [100] [(13, 33)] u37) L I P E N dy H locs ls (by omega) (by omega) (by omega) hwf hwm hnow hrl hac hrel0 hnew1 hrel2 hrel3 hrel4 hrel5 hrel6 hrel7 hrel8 hrel9 hrel10 hrel11 hrel12 hrel13 hrel14 hrel15 hrel16 hrel17 hrel18 hrel19 hrel20 hrel21 hrel22 hrel23 hrel24 hrel25 hrel26 hrel27 hrel28 hrel29 hrel30 (tol_s (a := J 13 49) (k := k) hk64 (Or.inl rfl) hrel31) hrel32 hrel33 hrel34 hrel35 hrel36 hrel37 hrel38 hnew39 hrel40 hrel41 hrel42 hrel43 hrel44 hW (lv_sub hl [0, 1, 2, 3] rfl)
          · refine lv_tableIn (off := 276) (tgt := 308) hx hb dL_law_32 (Int.not_lt.mpr c6) (Int.not_lt.mpr c6b) (by rw [c6k]; rfl) (by decide) ?_
            refine lv_aload_n hx hb dL_law_308 rfl (lv_at hl 2 rfl) ?_
            refine lv_aload_n hx hb dL_law_309 rfl (lv_at hl 1 rfl) ?_
            refine lv_iload_n hx hb dL_law_310 rfl (lv_at hl 0 rfl) ?_
            refine lv_iconst (v := 1) hx hb dL_law_311 (by decide) ?_
            refine lv_iadd hx hb dL_law_312 ?_
            refine lv_topi (fun x39 (e39 : x39 = i + 1) => ?_)
            try have t39 : x39.toInt = i.toInt + 1 := tadd e39 rfl kp1 (by omega)
            have hin : vp_in x39 Lx := tin rfl (by omega)
            refine va_sld hx hb hX hbl hbA hW.2.2.1 hin dL_law_313 ?_
            refine lv_topi (fun x40 (e40 : x40 = xs x39.toNatClampNeg) => ?_)
            refine lv_aload_n hx hb dL_law_314 rfl (lv_at hl 1 rfl) ?_
            refine lv_iload_n hx hb dL_law_315 rfl (lv_at hl 0 rfl) ?_
            refine lv_iconst (v := 2) hx hb dL_law_316 (by decide) ?_
            refine lv_iadd hx hb dL_law_317 ?_
            refine lv_topi (fun x41 (e41 : x41 = i + 2) => ?_)
            try have t41 : x41.toInt = i.toInt + 2 := tadd e41 rfl kp2 (by omega)
            have hin : vp_in x41 Lx := tin rfl (by omega)
            refine va_sld hx hb hX hbl hbA hW.2.2.1 hin dL_law_318 ?_
            refine lv_topi (fun x42 (e42 : x42 = xs x41.toNatClampNeg) => ?_)
            refine lv_aload_n hx hb dL_law_319 rfl (lv_at hl 1 rfl) ?_
            refine lv_iload_n hx hb dL_law_320 rfl (lv_at hl 0 rfl) ?_
            refine lv_iconst (v := 3) hx hb dL_law_321 (by decide) ?_
            refine lv_iadd hx hb dL_law_322 ?_
            refine lv_topi (fun x43 (e43 : x43 = i + 3) => ?_)
            try have t43 : x43.toInt = i.toInt + 3 := tadd e43 rfl kp3 (by omega)
            have hin : vp_in x43 Lx := tin rfl (by omega)
            refine va_sld hx hb hX hbl hbA hW.2.2.1 hin dL_law_323 ?_
            refine lv_topi (fun x44 (e44 : x44 = xs x43.toNatClampNeg) => ?_)
            refine ci2_ C (WB_L hW) (runV (x := g.2.2.1 12) (As := [.int x40, .int x42, .int x44]) (rest := []) (T := ((J, L, I, P, E, N), sgX g ++ dy)) C (WB_L hW) (c_X11_cut_p_p l g J L I P E N dy H.size x40 x42 x44 hwf hrel21) mi_X11_cut tw_497 (recv_ (T := ((J, L, I, P, E, N), sgX g ++ dy)) C (WB_L hW) (mx_ rfl) rfl rfl) ⟨rfl, rfl, Nat.le_of_ble_eq_true rfl, Nat.le_of_ble_eq_true rfl⟩ rfl hl.1 rfl (Nat.le_of_ble_eq_true rfl) dL_law_324 ⟨by show 1000 + 10 * k + 10 ≤ 600000; omega, by show 200000 + 20100 * k + 20100 ≤ 7302250; omega⟩) (fun r45 u45 H locs hp45 hB hk hS => ?_)
            have hW : WB g A s.heap H locs ((hv J [42] [(21, 0), (21, 2)] u45.1), L, (hv I [1] [] u45.2.1), (hv P [1, 31] [] u45.2.2.1), (hv1 E [21] u45.2.2.2.1), u45.2.2.2.2.1) ((sgX g ++ u45.2.2.2.2.2) ++ sgM g) := joinL hW hB hk hS (frsub C (WB_L hW)) (okM hW (fun r h => hv_m (J := J) (R := [42]) (F := [(21, 0), (21, 2)]) rfl rfl h) (fun r h => rfl))
            obtain ⟨hc45, hwf, hdd45, hf45_0⟩ := hp45
            refine lv_pop hx hb dL_law_327 rfl ?_
            refine lv_aload_n hx hb dL_law_328 rfl (lv_at hl 3 rfl) ?_
            refine lv_aload_n hx hb dL_law_329 rfl (lv_at hl 1 rfl) ?_
            refine lv_iload_n hx hb dL_law_330 rfl (lv_at hl 0 rfl) ?_
            refine lv_iconst (v := 1) hx hb dL_law_331 (by decide) ?_
            refine lv_iadd hx hb dL_law_332 ?_
            refine lv_topi (fun x46 (e46 : x46 = i + 1) => ?_)
            try have t46 : x46.toInt = i.toInt + 1 := tadd e46 rfl kp1 (by omega)
            have hin : vp_in x46 Lx := tin rfl (by omega)
            refine va_sld hx hb hX hbl hbA hW.2.2.1 hin dL_law_333 ?_
            refine lv_as x40 (by rw [e40, e39, e46]) ?_
            refine lv_aload_n hx hb dL_law_334 rfl (lv_at hl 1 rfl) ?_
            refine lv_iload_n hx hb dL_law_335 rfl (lv_at hl 0 rfl) ?_
            refine lv_iconst (v := 2) hx hb dL_law_336 (by decide) ?_
            refine lv_iadd hx hb dL_law_337 ?_
            refine lv_topi (fun x47 (e47 : x47 = i + 2) => ?_)
            try have t47 : x47.toInt = i.toInt + 2 := tadd e47 rfl kp2 (by omega)
            have hin : vp_in x47 Lx := tin rfl (by omega)
            refine va_sld hx hb hX hbl hbA hW.2.2.1 hin dL_law_338 ?_
            refine lv_as x42 (by rw [e42, e41, e47]) ?_
            refine lv_aload_n hx hb dL_law_339 rfl (lv_at hl 1 rfl) ?_
            refine lv_iload_n hx hb dL_law_340 rfl (lv_at hl 0 rfl) ?_
            refine lv_iconst (v := 3) hx hb dL_law_341 (by decide) ?_
            refine lv_iadd hx hb dL_law_342 ?_
            refine lv_topi (fun x48 (e48 : x48 = i + 3) => ?_)
            try have t48 : x48.toInt = i.toInt + 3 := tadd e48 rfl kp3 (by omega)
            have hin : vp_in x48 Lx := tin rfl (by omega)
            refine va_sld hx hb hX hbl hbA hW.2.2.1 hin dL_law_343 ?_
            refine lv_as x44 (by rw [e44, e43, e48]) ?_
            refine ci2_ C (WB_R hW) (runV (x := g.2.2.1 13) (As := [.int x40, .int x42, .int x44]) (rest := []) (T := (((hv J [42] [(21, 0), (21, 2)] u45.1), L, (hv I [1] [] u45.2.1), (hv P [1, 31] [] u45.2.2.1), (hv1 E [21] u45.2.2.2.1), u45.2.2.2.2.1), sgM g)) C (WB_R hW) (c_X12_cut_e l g (hv J [42] [(21, 0), (21, 2)] u45.1) L (hv I [1] [] u45.2.1) (hv P [1, 31] [] u45.2.2.1) (hv1 E [21] u45.2.2.2.1) u45.2.2.2.2.1 H.size x40 x42 x44 hwm) mi_X12_cut tw_1269 (recv_ (T := (((hv J [42] [(21, 0), (21, 2)] u45.1), L, (hv I [1] [] u45.2.1), (hv P [1, 31] [] u45.2.2.1), (hv1 E [21] u45.2.2.2.1), u45.2.2.2.2.1), sgM g)) C (WB_R hW) (mm_ rfl) rfl rfl) ⟨rfl, rfl, Nat.le_of_ble_eq_true rfl, Nat.le_of_ble_eq_true rfl⟩ rfl hl.1 rfl (Nat.le_of_ble_eq_true rfl) dL_law_344 ⟨by show 1000 + 10 * k + 10 + 0 ≤ 600000; omega, by show 200000 + 20100 * k + 20100 + 0 ≤ 7302250; omega⟩) (fun r49 u49 H locs hp49 hB hk hS => ?_)
            have hW : WB g A s.heap H locs ((hv (hv J [42] [(21, 0), (21, 2)] u45.1) [100, 105, 106, 107] [(13, 34)] u49), L, (hv I [1] [] u45.2.1), (hv P [1, 31] [] u45.2.2.1), (hv1 E [21] u45.2.2.2.1), u45.2.2.2.2.1) ((sgX g ++ u45.2.2.2.2.2) ++ sgM g) := joinR hW hB hk hS (frsub C (WB_R hW)) (fun x hx => cel_x (hv_x rfl rfl (notm hW x hx)))
            obtain ⟨hwm, hc49⟩ : WM (hv (hv J [42] [(21, 0), (21, 2)] u45.1) [100, 105, 106, 107] [(13, 34)] u49) ∧ ((r49.toInt = (-1) ∧ (¬ (1 ≤ x40.toInt ∧ x40.toInt < (J 13 32).toInt)) ∧ u49 13 34 = J 13 34 ∧ u49 105 = J 105 ∧ u49 106 = J 106 ∧ u49 107 = J 107) ∨ (r49.toInt = (-4) ∧ (1 ≤ x40.toInt ∧ x40.toInt < (J 13 32).toInt ∧ (x42.toInt < (J 13 31).toInt ∨ x44.toInt < x42.toInt)) ∧ u49 13 34 = J 13 34 ∧ u49 105 = J 105 ∧ u49 106 = J 106 ∧ u49 107 = J 107) ∨ (r49.toInt = (-6) ∧ (1 ≤ x40.toInt ∧ x40.toInt < (J 13 32).toInt ∧ (J 13 31).toInt ≤ x42.toInt ∧ x42.toInt ≤ x44.toInt ∧ (9999 < x44.toInt ∨ (J 13 34).toInt = 40)) ∧ u49 13 34 = J 13 34 ∧ u49 105 = J 105 ∧ u49 106 = J 106 ∧ u49 107 = J 107) ∨ (r49.toInt = (J 13 34).toInt + 1 ∧ (1 ≤ x40.toInt ∧ x40.toInt < (J 13 32).toInt ∧ (J 13 31).toInt ≤ x42.toInt ∧ x42.toInt ≤ x44.toInt ∧ x44.toInt ≤ 9999 ∧ (J 13 34).toInt ≤ 39) ∧ (u49 13 34).toInt = (J 13 34).toInt + 1 ∧ u49 105 = up2 J 105 (J 13 34).toNatClampNeg x40 105 ∧ u49 106 = up2 J 106 (J 13 34).toNatClampNeg x42 106 ∧ u49 107 = up2 J 107 (J 13 34).toNatClampNeg x44 107)) := hp49
            refine lv_pop hx hb dL_law_347 rfl ?_
            refine lv_goto (tgt := 1389) hx hb dL_law_348 (by decide) ?_
            obtain ⟨x50, e50⟩ : ∃ y : Int32, y = i + 5 := ⟨_, rfl⟩
            refine lv_iinc (v := x50) (lv' := [(3, .int x50), (0, .ref b), (1, .ref (g.2.2.1 12)), (2, .ref (g.2.2.1 13))]) hx hb dL_law_1389 hl (k := 0) rfl (by rw [e50]; rfl) (by decide) rfl (fun ls hl => ?_)
            try have t50 : x50.toInt = i.toInt + 5 := tadd e50 rfl kp5 (by omega)
            refine lv_goto (tgt := 18) hx hb dL_law_1392 (by decide) ?_
            refine W.widen (k := 1000 + 10 * (k + 1)) (n := 200000 + 20100 * (k + 1)) (by omega) (by omega) ?_
            obtain ⟨hnew16, hnew19, hnew27, hnew32, hnew33⟩ := rel_cut k g J I P E N dy r45 x40 u45 x42 x44 r49 u49 hk64 hwf0 hwm0 hnow0 hrl0 hac0 hrel0 hrel1 hrel2 hrel3 hrel4 hrel5 hrel6 hrel7 hrel8 hrel9 hrel10 hrel11 hrel12 hrel13 hrel14 hrel15 hrel16 hrel17 hrel18 hrel19 hrel20 hrel21 hrel22 hrel23 hrel24 hrel25 hrel26 hrel27 hrel28 hrel29 hrel30 hrel31 hrel32 hrel33 hrel34 hrel35 hrel36 hrel37 hrel38 hrel39 hrel40 hrel41 hrel42 hrel43 hrel44 hc45 hf45_0 hc49
            exact ih (k + 1) x50 (hv (hv J [42] [(21, 0), (21, 2)] u45.1) [100, 105, 106, 107] [(13, 34)] u49) L (hv I [1] [] u45.2.1) (hv P [1, 31] [] u45.2.2.1) (hv1 E [21] u45.2.2.2.1) u45.2.2.2.2.1 u45.2.2.2.2.2 H locs ls (by omega) (by omega) (by omega) hwf hwm hnow hrl hac hrel0 hrel1 hrel2 hrel3 hrel4 hrel5 hrel6 hrel7 hrel8 hrel9 hrel10 hrel11 hrel12 hrel13 hrel14 hrel15 hnew16 hrel17 hrel18 hnew19 hrel20 hrel21 hrel22 hrel23 hrel24 hrel25 hrel26 hnew27 hrel28 hrel29 hrel30 (tol_s (a := J 13 49) (k := k) hk64 (Or.inl rfl) hrel31) hnew32 hnew33 hrel34 hrel35 hrel36 hrel37 hrel38 hrel39 hrel40 hrel41 hrel42 hrel43 hrel44 hW (lv_sub hl [0, 1, 2, 3] rfl)
          · refine lv_tableIn (off := 319) (tgt := 351) hx hb dL_law_32 (Int.not_lt.mpr c6) (Int.not_lt.mpr c6b) (by rw [c6k]; rfl) (by decide) ?_
            refine lv_aload_n hx hb dL_law_351 rfl (lv_at hl 2 rfl) ?_
            refine lv_aload_n hx hb dL_law_352 rfl (lv_at hl 1 rfl) ?_
            refine lv_iload_n hx hb dL_law_353 rfl (lv_at hl 0 rfl) ?_
            refine lv_iconst (v := 1) hx hb dL_law_354 (by decide) ?_
            refine lv_iadd hx hb dL_law_355 ?_
            refine lv_topi (fun x51 (e51 : x51 = i + 1) => ?_)
            try have t51 : x51.toInt = i.toInt + 1 := tadd e51 rfl kp1 (by omega)
            have hin : vp_in x51 Lx := tin rfl (by omega)
            refine va_sld hx hb hX hbl hbA hW.2.2.1 hin dL_law_356 ?_
            refine lv_topi (fun x52 (e52 : x52 = xs x51.toNatClampNeg) => ?_)
            refine lv_aload_n hx hb dL_law_357 rfl (lv_at hl 1 rfl) ?_
            refine lv_iload_n hx hb dL_law_358 rfl (lv_at hl 0 rfl) ?_
            refine lv_iconst (v := 2) hx hb dL_law_359 (by decide) ?_
            refine lv_iadd hx hb dL_law_360 ?_
            refine lv_topi (fun x53 (e53 : x53 = i + 2) => ?_)
            try have t53 : x53.toInt = i.toInt + 2 := tadd e53 rfl kp2 (by omega)
            have hin : vp_in x53 Lx := tin rfl (by omega)
            refine va_sld hx hb hX hbl hbA hW.2.2.1 hin dL_law_361 ?_
            refine lv_topi (fun x54 (e54 : x54 = xs x53.toNatClampNeg) => ?_)
            refine ci2_ C (WB_L hW) (runV (x := g.2.2.1 12) (As := [.int x52, .int x54]) (rest := []) (T := ((J, L, I, P, E, N), sgX g ++ dy)) C (WB_L hW) (c_X11_loud_e l g J L I P E N dy H.size x52 x54 hwf hrel21 hrel20 hrel27) mi_X11_loud tw_520 (recv_ (T := ((J, L, I, P, E, N), sgX g ++ dy)) C (WB_L hW) (mx_ rfl) rfl rfl) ⟨rfl, rfl, Nat.le_of_ble_eq_true rfl, Nat.le_of_ble_eq_true rfl⟩ rfl hl.1 rfl (Nat.le_of_ble_eq_true rfl) dL_law_362 ⟨by show 1000 + 10 * k + 0 ≤ 600000; omega, by show 200000 + 20100 * k + 0 ≤ 7302250; omega⟩) (fun r55 u55 H locs hp55 hB hk hS => ?_)
            have hW : WB g A s.heap H locs ((hv J [42] [] u55.1), L, (hv I [] [(6, 6), (6, 7)] u55.2), P, E, N) ((sgX g ++ dy) ++ sgM g) := joinL hW hB hk hS (frsub C (WB_L hW)) (okM hW (fun r h => hv_m (J := J) (R := [42]) (F := []) rfl rfl h) (fun r h => rfl))
            have hc55 : ((r55.toInt = (-1) ∧ (¬ (0 ≤ x52.toInt ∧ x52.toInt < (J 20 2).toInt))) ∨ (r55.toInt = (-4) ∧ (0 ≤ x52.toInt ∧ x52.toInt < (J 20 2).toInt ∧ x54.toInt < 1)) ∨ (r55.toInt = (-6) ∧ (0 ≤ x52.toInt ∧ x52.toInt < (J 20 2).toInt ∧ 1 ≤ x54.toInt ∧ 999 < x54.toInt)) ∨ (r55 = r55 ∧ (0 ≤ x52.toInt ∧ x52.toInt < (J 20 2).toInt ∧ 1 ≤ x54.toInt ∧ x54.toInt ≤ 999) ∧ (∃ x : Nat → Int32, SND x (J 101) (fun k => I 6 1 (elt E P 20 k)) (fun k => I 6 3 (elt E P 20 k)) (fun k => I 6 5 (elt E P 20 k)) (CUTP (J 105) (J 106) (J 107) (J 21 2).toInt (J 3 1).toInt) x54 (J 4 4) (J 20 2).toInt ∧ r55 = x x52.toNatClampNeg))) := hp55
            refine lv_pop hx hb dL_law_365 rfl ?_
            refine lv_aload_n hx hb dL_law_366 rfl (lv_at hl 3 rfl) ?_
            refine lv_aload_n hx hb dL_law_367 rfl (lv_at hl 1 rfl) ?_
            refine lv_iload_n hx hb dL_law_368 rfl (lv_at hl 0 rfl) ?_
            refine lv_iconst (v := 1) hx hb dL_law_369 (by decide) ?_
            refine lv_iadd hx hb dL_law_370 ?_
            refine lv_topi (fun x56 (e56 : x56 = i + 1) => ?_)
            try have t56 : x56.toInt = i.toInt + 1 := tadd e56 rfl kp1 (by omega)
            have hin : vp_in x56 Lx := tin rfl (by omega)
            refine va_sld hx hb hX hbl hbA hW.2.2.1 hin dL_law_371 ?_
            refine lv_as x52 (by rw [e52, e51, e56]) ?_
            refine lv_aload_n hx hb dL_law_372 rfl (lv_at hl 1 rfl) ?_
            refine lv_iload_n hx hb dL_law_373 rfl (lv_at hl 0 rfl) ?_
            refine lv_iconst (v := 2) hx hb dL_law_374 (by decide) ?_
            refine lv_iadd hx hb dL_law_375 ?_
            refine lv_topi (fun x57 (e57 : x57 = i + 2) => ?_)
            try have t57 : x57.toInt = i.toInt + 2 := tadd e57 rfl kp2 (by omega)
            have hin : vp_in x57 Lx := tin rfl (by omega)
            refine va_sld hx hb hX hbl hbA hW.2.2.1 hin dL_law_376 ?_
            refine lv_as x54 (by rw [e54, e53, e57]) ?_
            refine ci2_ C (WB_R hW) (runV (x := g.2.2.1 13) (As := [.int x52, .int x54]) (rest := []) (T := (((hv J [42] [] u55.1), L, (hv I [] [(6, 6), (6, 7)] u55.2), P, E, N), sgM g)) C (WB_R hW) (c_X12_loud_e l g (hv J [42] [] u55.1) L (hv I [] [(6, 6), (6, 7)] u55.2) P E N H.size x52 x54 hwm) mi_X12_loud tw_1273 (recv_ (T := (((hv J [42] [] u55.1), L, (hv I [] [(6, 6), (6, 7)] u55.2), P, E, N), sgM g)) C (WB_R hW) (mm_ rfl) rfl rfl) ⟨rfl, rfl, Nat.le_of_ble_eq_true rfl, Nat.le_of_ble_eq_true rfl⟩ rfl hl.1 rfl (Nat.le_of_ble_eq_true rfl) dL_law_377 ⟨by show 1000 + 10 * k + 0 + 0 ≤ 600000; omega, by show 200000 + 20100 * k + 0 + 0 ≤ 7302250; omega⟩) (fun r58 u58 H locs hp58 hB hk hS => ?_)
            have hW : WB g A s.heap H locs ((hv (hv J [42] [] u55.1) [100, 146] [] u58), L, (hv I [] [(6, 6), (6, 7)] u55.2), P, E, N) ((sgX g ++ dy) ++ sgM g) := joinR hW hB hk hS (frsub C (WB_R hW)) (fun x hx => cel_x (hv_x rfl rfl (notm hW x hx)))
            refine lv_pop hx hb dL_law_380 rfl ?_
            refine lv_goto (tgt := 1389) hx hb dL_law_381 (by decide) ?_
            obtain ⟨x59, e59⟩ : ∃ y : Int32, y = i + 5 := ⟨_, rfl⟩
            refine lv_iinc (v := x59) (lv' := [(3, .int x59), (0, .ref b), (1, .ref (g.2.2.1 12)), (2, .ref (g.2.2.1 13))]) hx hb dL_law_1389 hl (k := 0) rfl (by rw [e59]; rfl) (by decide) rfl (fun ls hl => ?_)
            try have t59 : x59.toInt = i.toInt + 5 := tadd e59 rfl kp5 (by omega)
            refine lv_goto (tgt := 18) hx hb dL_law_1392 (by decide) ?_
            refine W.widen (k := 1000 + 10 * (k + 1)) (n := 200000 + 20100 * (k + 1)) (by omega) (by omega) ?_
            exact ih (k + 1) x59 (hv (hv J [42] [] u55.1) [100, 146] [] u58) L (hv I [] [(6, 6), (6, 7)] u55.2) P E N dy H locs ls (by omega) (by omega) (by omega) hwf hwm hnow hrl hac hrel0 hrel1 hrel2 hrel3 hrel4 hrel5 hrel6 hrel7 hrel8 hrel9 hrel10 hrel11 hrel12 hrel13 hrel14 hrel15 hrel16 hrel17 hrel18 hrel19 hrel20 hrel21 hrel22 hrel23 hrel24 hrel25 hrel26 hrel27 hrel28 hrel29 hrel30 (tol_s (a := J 13 49) (k := k) hk64 (Or.inl rfl) hrel31) hrel32 hrel33 hrel34 hrel35 hrel36 hrel37 hrel38 hrel39 hrel40 hrel41 hrel42 hrel43 hrel44 hW (lv_sub hl [0, 1, 2, 3] rfl)
          · refine lv_tableIn (off := 352) (tgt := 384) hx hb dL_law_32 (Int.not_lt.mpr c6) (Int.not_lt.mpr c6b) (by rw [c6k]; rfl) (by decide) ?_
            refine lv_aload_n hx hb dL_law_384 rfl (lv_at hl 2 rfl) ?_
            refine lv_aload_n hx hb dL_law_385 rfl (lv_at hl 1 rfl) ?_
            refine lv_iload_n hx hb dL_law_386 rfl (lv_at hl 0 rfl) ?_
            refine lv_iconst (v := 1) hx hb dL_law_387 (by decide) ?_
            refine lv_iadd hx hb dL_law_388 ?_
            refine lv_topi (fun x60 (e60 : x60 = i + 1) => ?_)
            try have t60 : x60.toInt = i.toInt + 1 := tadd e60 rfl kp1 (by omega)
            have hin : vp_in x60 Lx := tin rfl (by omega)
            refine va_sld hx hb hX hbl hbA hW.2.2.1 hin dL_law_389 ?_
            refine lv_topi (fun x61 (e61 : x61 = xs x60.toNatClampNeg) => ?_)
            refine lv_aload_n hx hb dL_law_390 rfl (lv_at hl 1 rfl) ?_
            refine lv_iload_n hx hb dL_law_391 rfl (lv_at hl 0 rfl) ?_
            refine lv_iconst (v := 2) hx hb dL_law_392 (by decide) ?_
            refine lv_iadd hx hb dL_law_393 ?_
            refine lv_topi (fun x62 (e62 : x62 = i + 2) => ?_)
            try have t62 : x62.toInt = i.toInt + 2 := tadd e62 rfl kp2 (by omega)
            have hin : vp_in x62 Lx := tin rfl (by omega)
            refine va_sld hx hb hX hbl hbA hW.2.2.1 hin dL_law_394 ?_
            refine lv_topi (fun x63 (e63 : x63 = xs x62.toNatClampNeg) => ?_)
            refine lv_aload_n hx hb dL_law_395 rfl (lv_at hl 1 rfl) ?_
            refine lv_iload_n hx hb dL_law_396 rfl (lv_at hl 0 rfl) ?_
            refine lv_iconst (v := 3) hx hb dL_law_397 (by decide) ?_
            refine lv_iadd hx hb dL_law_398 ?_
            refine lv_topi (fun x64 (e64 : x64 = i + 3) => ?_)
            try have t64 : x64.toInt = i.toInt + 3 := tadd e64 rfl kp3 (by omega)
            have hin : vp_in x64 Lx := tin rfl (by omega)
            refine va_sld hx hb hX hbl hbA hW.2.2.1 hin dL_law_399 ?_
            refine lv_topi (fun x65 (e65 : x65 = xs x64.toNatClampNeg) => ?_)
            refine lv_aload_n hx hb dL_law_400 rfl (lv_at hl 1 rfl) ?_
            refine lv_iload_n hx hb dL_law_401 rfl (lv_at hl 0 rfl) ?_
            refine lv_iconst (v := 4) hx hb dL_law_402 (by decide) ?_
            refine lv_iadd hx hb dL_law_403 ?_
            refine lv_topi (fun x66 (e66 : x66 = i + 4) => ?_)
            try have t66 : x66.toInt = i.toInt + 4 := tadd e66 rfl kp4 (by omega)
            have hin : vp_in x66 Lx := tin rfl (by omega)
            refine va_sld hx hb hX hbl hbA hW.2.2.1 hin dL_law_404 ?_
            refine lv_topi (fun x67 (e67 : x67 = xs x66.toNatClampNeg) => ?_)
            refine ci2_ C (WB_L hW) (runV (x := g.2.2.1 12) (As := [.int x61, .int x63, .int x65, .int x67]) (rest := []) (T := ((J, L, I, P, E, N), sgX g ++ dy)) C (WB_L hW) (c_X11_home_p_p l g J L I P E N dy H.size x61 x63 x65 x67 hwf) mi_X11_home tw_537 (recv_ (T := ((J, L, I, P, E, N), sgX g ++ dy)) C (WB_L hW) (mx_ rfl) rfl rfl) ⟨rfl, rfl, Nat.le_of_ble_eq_true rfl, Nat.le_of_ble_eq_true rfl⟩ rfl hl.1 rfl (Nat.le_of_ble_eq_true rfl) dL_law_405 ⟨by show 1000 + 10 * k + 10 ≤ 600000; omega, by show 200000 + 20100 * k + 20100 ≤ 7302250; omega⟩) (fun r68 u68 H locs hp68 hB hk hS => ?_)
            have hW : WB g A s.heap H locs ((hv J [42] [(22, 0), (22, 2)] u68.1), L, (hv I [2] [] u68.2.1), (hv P [2, 32] [] u68.2.2.1), (hv1 E [22] u68.2.2.2.1), u68.2.2.2.2.1) ((sgX g ++ u68.2.2.2.2.2) ++ sgM g) := joinL hW hB hk hS (frsub C (WB_L hW)) (okM hW (fun r h => hv_m (J := J) (R := [42]) (F := [(22, 0), (22, 2)]) rfl rfl h) (fun r h => rfl))
            obtain ⟨hc68, hwf, hdd68, hf68_0⟩ := hp68
            refine lv_pop hx hb dL_law_408 rfl ?_
            refine lv_aload_n hx hb dL_law_409 rfl (lv_at hl 3 rfl) ?_
            refine lv_aload_n hx hb dL_law_410 rfl (lv_at hl 1 rfl) ?_
            refine lv_iload_n hx hb dL_law_411 rfl (lv_at hl 0 rfl) ?_
            refine lv_iconst (v := 1) hx hb dL_law_412 (by decide) ?_
            refine lv_iadd hx hb dL_law_413 ?_
            refine lv_topi (fun x69 (e69 : x69 = i + 1) => ?_)
            try have t69 : x69.toInt = i.toInt + 1 := tadd e69 rfl kp1 (by omega)
            have hin : vp_in x69 Lx := tin rfl (by omega)
            refine va_sld hx hb hX hbl hbA hW.2.2.1 hin dL_law_414 ?_
            refine lv_as x61 (by rw [e61, e60, e69]) ?_
            refine lv_aload_n hx hb dL_law_415 rfl (lv_at hl 1 rfl) ?_
            refine lv_iload_n hx hb dL_law_416 rfl (lv_at hl 0 rfl) ?_
            refine lv_iconst (v := 2) hx hb dL_law_417 (by decide) ?_
            refine lv_iadd hx hb dL_law_418 ?_
            refine lv_topi (fun x70 (e70 : x70 = i + 2) => ?_)
            try have t70 : x70.toInt = i.toInt + 2 := tadd e70 rfl kp2 (by omega)
            have hin : vp_in x70 Lx := tin rfl (by omega)
            refine va_sld hx hb hX hbl hbA hW.2.2.1 hin dL_law_419 ?_
            refine lv_as x63 (by rw [e63, e62, e70]) ?_
            refine lv_aload_n hx hb dL_law_420 rfl (lv_at hl 1 rfl) ?_
            refine lv_iload_n hx hb dL_law_421 rfl (lv_at hl 0 rfl) ?_
            refine lv_iconst (v := 3) hx hb dL_law_422 (by decide) ?_
            refine lv_iadd hx hb dL_law_423 ?_
            refine lv_topi (fun x71 (e71 : x71 = i + 3) => ?_)
            try have t71 : x71.toInt = i.toInt + 3 := tadd e71 rfl kp3 (by omega)
            have hin : vp_in x71 Lx := tin rfl (by omega)
            refine va_sld hx hb hX hbl hbA hW.2.2.1 hin dL_law_424 ?_
            refine lv_as x65 (by rw [e65, e64, e71]) ?_
            refine lv_aload_n hx hb dL_law_425 rfl (lv_at hl 1 rfl) ?_
            refine lv_iload_n hx hb dL_law_426 rfl (lv_at hl 0 rfl) ?_
            refine lv_iconst (v := 4) hx hb dL_law_427 (by decide) ?_
            refine lv_iadd hx hb dL_law_428 ?_
            refine lv_topi (fun x72 (e72 : x72 = i + 4) => ?_)
            try have t72 : x72.toInt = i.toInt + 4 := tadd e72 rfl kp4 (by omega)
            have hin : vp_in x72 Lx := tin rfl (by omega)
            refine va_sld hx hb hX hbl hbA hW.2.2.1 hin dL_law_429 ?_
            refine lv_as x67 (by rw [e67, e66, e72]) ?_
            refine ci2_ C (WB_R hW) (runV (x := g.2.2.1 13) (As := [.int x61, .int x63, .int x65, .int x67]) (rest := []) (T := (((hv J [42] [(22, 0), (22, 2)] u68.1), L, (hv I [2] [] u68.2.1), (hv P [2, 32] [] u68.2.2.1), (hv1 E [22] u68.2.2.2.1), u68.2.2.2.2.1), sgM g)) C (WB_R hW) (c_X12_home_t l g (hv J [42] [(22, 0), (22, 2)] u68.1) L (hv I [2] [] u68.2.1) (hv P [2, 32] [] u68.2.2.1) (hv1 E [22] u68.2.2.2.1) u68.2.2.2.2.1 H.size x61 x63 x65 x67 hwm) mi_X12_home tw_1285 (recv_ (T := (((hv J [42] [(22, 0), (22, 2)] u68.1), L, (hv I [2] [] u68.2.1), (hv P [2, 32] [] u68.2.2.1), (hv1 E [22] u68.2.2.2.1), u68.2.2.2.2.1), sgM g)) C (WB_R hW) (mm_ rfl) rfl rfl) ⟨rfl, rfl, Nat.le_of_ble_eq_true rfl, Nat.le_of_ble_eq_true rfl⟩ rfl hl.1 rfl (Nat.le_of_ble_eq_true rfl) dL_law_430 ⟨by show 1000 + 10 * k + 10 + 0 ≤ 600000; omega, by show 200000 + 20100 * k + 20100 + 0 ≤ 7302250; omega⟩) (fun r73 u73 H locs hp73 hB hk hS => ?_)
            have hW : WB g A s.heap H locs ((hv (hv J [42] [(22, 0), (22, 2)] u68.1) [100, 108, 109, 110, 111] [(13, 35), (13, 49)] u73), L, (hv I [2] [] u68.2.1), (hv P [2, 32] [] u68.2.2.1), (hv1 E [22] u68.2.2.2.1), u68.2.2.2.2.1) ((sgX g ++ u68.2.2.2.2.2) ++ sgM g) := joinR hW hB hk hS (frsub C (WB_R hW)) (fun x hx => cel_x (hv_x rfl rfl (notm hW x hx)))
            obtain ⟨hwm, hc73, hf73_0⟩ : WM (hv (hv J [42] [(22, 0), (22, 2)] u68.1) [100, 108, 109, 110, 111] [(13, 35), (13, 49)] u73) ∧ ((r73.toInt = (-1) ∧ (¬ (0 ≤ x61.toInt ∧ x61.toInt < (J 13 32).toInt)) ∧ u73 13 35 = J 13 35 ∧ u73 108 = J 108 ∧ u73 109 = J 109 ∧ u73 110 = J 110 ∧ u73 111 = J 111) ∨ (r73.toInt = (-4) ∧ (0 ≤ x61.toInt ∧ x61.toInt < (J 13 32).toInt ∧ (x63.toInt < 1 ∨ x65.toInt < 0 ∨ x67.toInt < 0)) ∧ u73 13 35 = J 13 35 ∧ u73 108 = J 108 ∧ u73 109 = J 109 ∧ u73 110 = J 110 ∧ u73 111 = J 111) ∨ (r73.toInt = (-6) ∧ (0 ≤ x61.toInt ∧ x61.toInt < (J 13 32).toInt ∧ 1 ≤ x63.toInt ∧ 0 ≤ x65.toInt ∧ 0 ≤ x67.toInt ∧ (9 < x63.toInt ∨ 16777215 < x65.toInt ∨ 16777215 < x67.toInt ∨ (J 13 35).toInt = 40)) ∧ u73 13 35 = J 13 35 ∧ u73 108 = J 108 ∧ u73 109 = J 109 ∧ u73 110 = J 110 ∧ u73 111 = J 111) ∨ (r73.toInt = (J 13 35).toInt ∧ (0 ≤ x61.toInt ∧ x61.toInt < (J 13 32).toInt ∧ 1 ≤ x63.toInt ∧ 0 ≤ x65.toInt ∧ 0 ≤ x67.toInt ∧ x63.toInt ≤ 9 ∧ x65.toInt ≤ 16777215 ∧ x67.toInt ≤ 16777215 ∧ (J 13 35).toInt ≤ 39) ∧ (u73 13 35).toInt = (J 13 35).toInt + 1 ∧ u73 108 = up2 J 108 (J 13 35).toNatClampNeg x61 108 ∧ u73 109 = up2 J 109 (J 13 35).toNatClampNeg x63 109 ∧ u73 110 = up2 J 110 (J 13 35).toNatClampNeg x65 110 ∧ u73 111 = up2 J 111 (J 13 35).toNatClampNeg x67 111)) ∧ ((u73 13 49 = J 13 49 ∧ u73 13 35 = J 13 35 ∧ u73 108 = J 108 ∧ u73 109 = J 109 ∧ u73 110 = J 110 ∧ u73 111 = J 111) ∨ u73 13 49 = J 13 49 + 1) := hp73
            refine lv_pop hx hb dL_law_433 rfl ?_
            refine lv_goto (tgt := 1389) hx hb dL_law_434 (by decide) ?_
            obtain ⟨x74, e74⟩ : ∃ y : Int32, y = i + 5 := ⟨_, rfl⟩
            refine lv_iinc (v := x74) (lv' := [(3, .int x74), (0, .ref b), (1, .ref (g.2.2.1 12)), (2, .ref (g.2.2.1 13))]) hx hb dL_law_1389 hl (k := 0) rfl (by rw [e74]; rfl) (by decide) rfl (fun ls hl => ?_)
            try have t74 : x74.toInt = i.toInt + 5 := tadd e74 rfl kp5 (by omega)
            refine lv_goto (tgt := 18) hx hb dL_law_1392 (by decide) ?_
            refine W.widen (k := 1000 + 10 * (k + 1)) (n := 200000 + 20100 * (k + 1)) (by omega) (by omega) ?_
            obtain ⟨hnew12, hnew16, hnew28, hnew32, hnew33, hnew40, hnew41, hnew42⟩ := rel_home k g J I P E N dy r68 x61 u68 x63 x65 x67 r73 u73 hk64 hwf0 hwm0 hnow0 hrl0 hac0 hrel0 hrel1 hrel2 hrel3 hrel4 hrel5 hrel6 hrel7 hrel8 hrel9 hrel10 hrel11 hrel12 hrel13 hrel14 hrel15 hrel16 hrel17 hrel18 hrel19 hrel20 hrel21 hrel22 hrel23 hrel24 hrel25 hrel26 hrel27 hrel28 hrel29 hrel30 hrel31 hrel32 hrel33 hrel34 hrel35 hrel36 hrel37 hrel38 hrel39 hrel40 hrel41 hrel42 hrel43 hrel44 hc68 hf68_0 hc73 hf73_0
            exact ih (k + 1) x74 (hv (hv J [42] [(22, 0), (22, 2)] u68.1) [100, 108, 109, 110, 111] [(13, 35), (13, 49)] u73) L (hv I [2] [] u68.2.1) (hv P [2, 32] [] u68.2.2.1) (hv1 E [22] u68.2.2.2.1) u68.2.2.2.2.1 u68.2.2.2.2.2 H locs ls (by omega) (by omega) (by omega) hwf hwm hnow hrl hac hrel0 hrel1 hrel2 hrel3 hrel4 hrel5 hrel6 hrel7 hrel8 hrel9 hrel10 hrel11 hnew12 hrel13 hrel14 hrel15 hnew16 hrel17 hrel18 hrel19 hrel20 hrel21 hrel22 hrel23 hrel24 hrel25 hrel26 hrel27 hnew28 hrel29 hrel30 (tol_s (a := J 13 49) (k := k) hk64 (hf73_0.imp (fun q => q.1) id) hrel31) hnew32 hnew33 hrel34 hrel35 hrel36 hrel37 hrel38 hrel39 hnew40 hnew41 hnew42 hrel43 hrel44 hW (lv_sub hl [0, 1, 2, 3] rfl)
          · refine lv_tableIn (off := 405) (tgt := 437) hx hb dL_law_32 (Int.not_lt.mpr c6) (Int.not_lt.mpr c6b) (by rw [c6k]; rfl) (by decide) ?_
            refine lv_aload_n hx hb dL_law_437 rfl (lv_at hl 2 rfl) ?_
            refine lv_aload_n hx hb dL_law_438 rfl (lv_at hl 1 rfl) ?_
            refine lv_iload_n hx hb dL_law_439 rfl (lv_at hl 0 rfl) ?_
            refine lv_iconst (v := 1) hx hb dL_law_440 (by decide) ?_
            refine lv_iadd hx hb dL_law_441 ?_
            refine lv_topi (fun x75 (e75 : x75 = i + 1) => ?_)
            try have t75 : x75.toInt = i.toInt + 1 := tadd e75 rfl kp1 (by omega)
            have hin : vp_in x75 Lx := tin rfl (by omega)
            refine va_sld hx hb hX hbl hbA hW.2.2.1 hin dL_law_442 ?_
            refine lv_topi (fun x76 (e76 : x76 = xs x75.toNatClampNeg) => ?_)
            refine ci2_ C (WB_L hW) (runV (x := g.2.2.1 12) (As := [.int x76]) (rest := []) (T := ((J, L, I, P, E, N), sgX g ++ dy)) C (WB_L hW) (c_X11_least l g J L I P E N dy H.size x76 hwf) mi_X11_least tw_568 (recv_ (T := ((J, L, I, P, E, N), sgX g ++ dy)) C (WB_L hW) (mx_ rfl) rfl rfl) ⟨rfl, rfl, Nat.le_of_ble_eq_true rfl, Nat.le_of_ble_eq_true rfl⟩ rfl hl.1 rfl (Nat.le_of_ble_eq_true rfl) dL_law_443 ⟨by show 1000 + 10 * k + 0 ≤ 600000; omega, by show 200000 + 20100 * k + 0 ≤ 7302250; omega⟩) (fun r77 u77 H locs hp77 hB hk hS => ?_)
            have hW : WB g A s.heap H locs ((hv J [42] [(4, 5)] u77), L, I, P, E, N) ((sgX g ++ dy) ++ sgM g) := joinL hW hB hk hS (frsub C (WB_L hW)) (okM hW (fun r h => hv_m (J := J) (R := [42]) (F := [(4, 5)]) rfl rfl h) (fun r h => rfl))
            have hc77 : ((r77.toInt = (-4) ∧ (x76.toInt < 1) ∧ u77 4 5 = J 4 5) ∨ (r77.toInt = (-6) ∧ (99 < x76.toInt) ∧ u77 4 5 = J 4 5) ∨ (r77 = J 4 5 ∧ (1 ≤ x76.toInt ∧ x76.toInt ≤ 99) ∧ u77 4 5 = x76)) := hp77
            refine lv_pop hx hb dL_law_446 rfl ?_
            refine lv_aload_n hx hb dL_law_447 rfl (lv_at hl 3 rfl) ?_
            refine lv_aload_n hx hb dL_law_448 rfl (lv_at hl 1 rfl) ?_
            refine lv_iload_n hx hb dL_law_449 rfl (lv_at hl 0 rfl) ?_
            refine lv_iconst (v := 1) hx hb dL_law_450 (by decide) ?_
            refine lv_iadd hx hb dL_law_451 ?_
            refine lv_topi (fun x78 (e78 : x78 = i + 1) => ?_)
            try have t78 : x78.toInt = i.toInt + 1 := tadd e78 rfl kp1 (by omega)
            have hin : vp_in x78 Lx := tin rfl (by omega)
            refine va_sld hx hb hX hbl hbA hW.2.2.1 hin dL_law_452 ?_
            refine lv_as x76 (by rw [e76, e75, e78]) ?_
            refine ci2_ C (WB_R hW) (runV (x := g.2.2.1 13) (As := [.int x76]) (rest := []) (T := (((hv J [42] [(4, 5)] u77), L, I, P, E, N), sgM g)) C (WB_R hW) (c_X12_least_t l g (hv J [42] [(4, 5)] u77) L I P E N H.size x76 hwm) mi_X12_least tw_1290 (recv_ (T := (((hv J [42] [(4, 5)] u77), L, I, P, E, N), sgM g)) C (WB_R hW) (mm_ rfl) rfl rfl) ⟨rfl, rfl, Nat.le_of_ble_eq_true rfl, Nat.le_of_ble_eq_true rfl⟩ rfl hl.1 rfl (Nat.le_of_ble_eq_true rfl) dL_law_453 ⟨by show 1000 + 10 * k + 0 + 0 ≤ 600000; omega, by show 200000 + 20100 * k + 0 + 0 ≤ 7302250; omega⟩) (fun r79 u79 H locs hp79 hB hk hS => ?_)
            have hW : WB g A s.heap H locs ((hv (hv J [42] [(4, 5)] u77) [100] [(13, 36), (13, 49)] u79), L, I, P, E, N) ((sgX g ++ dy) ++ sgM g) := joinR hW hB hk hS (frsub C (WB_R hW)) (fun x hx => cel_x (hv_x rfl rfl (notm hW x hx)))
            obtain ⟨hc79, hf79_0⟩ : ((r79.toInt = (-4) ∧ (x76.toInt < 1) ∧ u79 13 36 = J 13 36) ∨ (r79.toInt = (-6) ∧ (99 < x76.toInt) ∧ u79 13 36 = J 13 36) ∨ (r79 = J 13 36 ∧ (1 ≤ x76.toInt ∧ x76.toInt ≤ 99) ∧ u79 13 36 = x76)) ∧ ((u79 13 49 = J 13 49 ∧ u79 13 36 = J 13 36) ∨ u79 13 49 = J 13 49 + 1) := hp79
            refine lv_pop hx hb dL_law_456 rfl ?_
            refine lv_goto (tgt := 1389) hx hb dL_law_457 (by decide) ?_
            obtain ⟨x80, e80⟩ : ∃ y : Int32, y = i + 5 := ⟨_, rfl⟩
            refine lv_iinc (v := x80) (lv' := [(3, .int x80), (0, .ref b), (1, .ref (g.2.2.1 12)), (2, .ref (g.2.2.1 13))]) hx hb dL_law_1389 hl (k := 0) rfl (by rw [e80]; rfl) (by decide) rfl (fun ls hl => ?_)
            try have t80 : x80.toInt = i.toInt + 5 := tadd e80 rfl kp5 (by omega)
            refine lv_goto (tgt := 18) hx hb dL_law_1392 (by decide) ?_
            refine W.widen (k := 1000 + 10 * (k + 1)) (n := 200000 + 20100 * (k + 1)) (by omega) (by omega) ?_
            obtain ⟨hnew29, hnew30, hnew32⟩ := rel_least k g J I P E N dy r77 x76 u77 r79 u79 hk64 hwf0 hwm0 hnow0 hrl0 hac0 hrel0 hrel1 hrel2 hrel3 hrel4 hrel5 hrel6 hrel7 hrel8 hrel9 hrel10 hrel11 hrel12 hrel13 hrel14 hrel15 hrel16 hrel17 hrel18 hrel19 hrel20 hrel21 hrel22 hrel23 hrel24 hrel25 hrel26 hrel27 hrel28 hrel29 hrel30 hrel31 hrel32 hrel33 hrel34 hrel35 hrel36 hrel37 hrel38 hrel39 hrel40 hrel41 hrel42 hrel43 hrel44 hc77 hc79 hf79_0
            exact ih (k + 1) x80 (hv (hv J [42] [(4, 5)] u77) [100] [(13, 36), (13, 49)] u79) L I P E N dy H locs ls (by omega) (by omega) (by omega) hwf hwm hnow hrl hac hrel0 hrel1 hrel2 hrel3 hrel4 hrel5 hrel6 hrel7 hrel8 hrel9 hrel10 hrel11 hrel12 hrel13 hrel14 hrel15 hrel16 hrel17 hrel18 hrel19 hrel20 hrel21 hrel22 hrel23 hrel24 hrel25 hrel26 hrel27 hrel28 hnew29 hnew30 (tol_s (a := J 13 49) (k := k) hk64 (hf79_0.imp (fun q => q.1) id) hrel31) hnew32 hrel33 hrel34 hrel35 hrel36 hrel37 hrel38 hrel39 hrel40 hrel41 hrel42 hrel43 hrel44 hW (lv_sub hl [0, 1, 2, 3] rfl)
          · refine lv_tableIn (off := 428) (tgt := 460) hx hb dL_law_32 (Int.not_lt.mpr c6) (Int.not_lt.mpr c6b) (by rw [c6k]; rfl) (by decide) ?_
            refine lv_aload_n hx hb dL_law_460 rfl (lv_at hl 2 rfl) ?_
            refine lv_aload_n hx hb dL_law_461 rfl (lv_at hl 1 rfl) ?_
            refine lv_iload_n hx hb dL_law_462 rfl (lv_at hl 0 rfl) ?_
            refine lv_iconst (v := 1) hx hb dL_law_463 (by decide) ?_
            refine lv_iadd hx hb dL_law_464 ?_
            refine lv_topi (fun x81 (e81 : x81 = i + 1) => ?_)
            try have t81 : x81.toInt = i.toInt + 1 := tadd e81 rfl kp1 (by omega)
            have hin : vp_in x81 Lx := tin rfl (by omega)
            refine va_sld hx hb hX hbl hbA hW.2.2.1 hin dL_law_465 ?_
            refine lv_topi (fun x82 (e82 : x82 = xs x81.toNatClampNeg) => ?_)
            refine lv_aload_n hx hb dL_law_466 rfl (lv_at hl 1 rfl) ?_
            refine lv_iload_n hx hb dL_law_467 rfl (lv_at hl 0 rfl) ?_
            refine lv_iconst (v := 2) hx hb dL_law_468 (by decide) ?_
            refine lv_iadd hx hb dL_law_469 ?_
            refine lv_topi (fun x83 (e83 : x83 = i + 2) => ?_)
            try have t83 : x83.toInt = i.toInt + 2 := tadd e83 rfl kp2 (by omega)
            have hin : vp_in x83 Lx := tin rfl (by omega)
            refine va_sld hx hb hX hbl hbA hW.2.2.1 hin dL_law_470 ?_
            refine lv_topi (fun x84 (e84 : x84 = xs x83.toNatClampNeg) => ?_)
            refine ci2_ C (WB_L hW) (runV (x := g.2.2.1 12) (As := [.int x82, .int x84]) (rest := []) (T := ((J, L, I, P, E, N), sgX g ++ dy)) C (WB_L hW) (c_X11_hears_e l g J L I P E N dy H.size x82 x84 hwf hrel21 hrel20 hrel27 hrel28) mi_X11_hears tw_572 (recv_ (T := ((J, L, I, P, E, N), sgX g ++ dy)) C (WB_L hW) (mx_ rfl) rfl rfl) ⟨rfl, rfl, Nat.le_of_ble_eq_true rfl, Nat.le_of_ble_eq_true rfl⟩ rfl hl.1 rfl (Nat.le_of_ble_eq_true rfl) dL_law_471 ⟨by show 1000 + 10 * k + 0 ≤ 600000; omega, by show 200000 + 20100 * k + 0 ≤ 7302250; omega⟩) (fun r85 u85 H locs hp85 hB hk hS => ?_)
            have hW : WB g A s.heap H locs ((hv J [42] [] u85.1), L, (hv I [] [(6, 6), (6, 7)] u85.2), P, E, N) ((sgX g ++ dy) ++ sgM g) := joinL hW hB hk hS (frsub C (WB_L hW)) (okM hW (fun r h => hv_m (J := J) (R := [42]) (F := []) rfl rfl h) (fun r h => rfl))
            have hc85 : ((r85.toInt = (-1) ∧ (¬ (0 ≤ x82.toInt ∧ x82.toInt < (J 22 2).toInt))) ∨ (r85.toInt = (-4) ∧ (0 ≤ x82.toInt ∧ x82.toInt < (J 22 2).toInt ∧ x84.toInt < 1)) ∨ (r85.toInt = (-6) ∧ (0 ≤ x82.toInt ∧ x82.toInt < (J 22 2).toInt ∧ 1 ≤ x84.toInt ∧ 999 < x84.toInt)) ∨ (r85.toInt = 1 ∧ (0 ≤ x82.toInt ∧ x82.toInt < (J 22 2).toInt ∧ 1 ≤ x84.toInt ∧ x84.toInt ≤ 999) ∧ (∃ x : Nat → Int32, SND x (J 101) (fun k => I 6 1 (elt E P 20 k)) (fun k => I 6 3 (elt E P 20 k)) (fun k => I 6 5 (elt E P 20 k)) (CUTP (J 105) (J 106) (J 107) (J 21 2).toInt (J 3 1).toInt) x84 (J 4 4) (J 20 2).toInt ∧ (J 4 5 * J 109 x82.toNatClampNeg).toInt ≤ (x (J 108 x82.toNatClampNeg).toNatClampNeg).toInt)) ∨ (r85.toInt = 0 ∧ (0 ≤ x82.toInt ∧ x82.toInt < (J 22 2).toInt ∧ 1 ≤ x84.toInt ∧ x84.toInt ≤ 999) ∧ (∃ x : Nat → Int32, SND x (J 101) (fun k => I 6 1 (elt E P 20 k)) (fun k => I 6 3 (elt E P 20 k)) (fun k => I 6 5 (elt E P 20 k)) (CUTP (J 105) (J 106) (J 107) (J 21 2).toInt (J 3 1).toInt) x84 (J 4 4) (J 20 2).toInt ∧ ¬ (J 4 5 * J 109 x82.toNatClampNeg).toInt ≤ (x (J 108 x82.toNatClampNeg).toNatClampNeg).toInt))) := hp85
            refine lv_pop hx hb dL_law_474 rfl ?_
            refine lv_aload_n hx hb dL_law_475 rfl (lv_at hl 3 rfl) ?_
            refine lv_aload_n hx hb dL_law_476 rfl (lv_at hl 1 rfl) ?_
            refine lv_iload_n hx hb dL_law_477 rfl (lv_at hl 0 rfl) ?_
            refine lv_iconst (v := 1) hx hb dL_law_478 (by decide) ?_
            refine lv_iadd hx hb dL_law_479 ?_
            refine lv_topi (fun x86 (e86 : x86 = i + 1) => ?_)
            try have t86 : x86.toInt = i.toInt + 1 := tadd e86 rfl kp1 (by omega)
            have hin : vp_in x86 Lx := tin rfl (by omega)
            refine va_sld hx hb hX hbl hbA hW.2.2.1 hin dL_law_480 ?_
            refine lv_as x82 (by rw [e82, e81, e86]) ?_
            refine lv_aload_n hx hb dL_law_481 rfl (lv_at hl 1 rfl) ?_
            refine lv_iload_n hx hb dL_law_482 rfl (lv_at hl 0 rfl) ?_
            refine lv_iconst (v := 2) hx hb dL_law_483 (by decide) ?_
            refine lv_iadd hx hb dL_law_484 ?_
            refine lv_topi (fun x87 (e87 : x87 = i + 2) => ?_)
            try have t87 : x87.toInt = i.toInt + 2 := tadd e87 rfl kp2 (by omega)
            have hin : vp_in x87 Lx := tin rfl (by omega)
            refine va_sld hx hb hX hbl hbA hW.2.2.1 hin dL_law_485 ?_
            refine lv_as x84 (by rw [e84, e83, e87]) ?_
            refine ci2_ C (WB_R hW) (runV (x := g.2.2.1 13) (As := [.int x82, .int x84]) (rest := []) (T := (((hv J [42] [] u85.1), L, (hv I [] [(6, 6), (6, 7)] u85.2), P, E, N), sgM g)) C (WB_R hW) (c_X12_hears_e l g (hv J [42] [] u85.1) L (hv I [] [(6, 6), (6, 7)] u85.2) P E N H.size x82 x84 hwm) mi_X12_hears tw_1294 (recv_ (T := (((hv J [42] [] u85.1), L, (hv I [] [(6, 6), (6, 7)] u85.2), P, E, N), sgM g)) C (WB_R hW) (mm_ rfl) rfl rfl) ⟨rfl, rfl, Nat.le_of_ble_eq_true rfl, Nat.le_of_ble_eq_true rfl⟩ rfl hl.1 rfl (Nat.le_of_ble_eq_true rfl) dL_law_486 ⟨by show 1000 + 10 * k + 0 + 0 ≤ 600000; omega, by show 200000 + 20100 * k + 0 + 0 ≤ 7302250; omega⟩) (fun r88 u88 H locs hp88 hB hk hS => ?_)
            have hW : WB g A s.heap H locs ((hv (hv J [42] [] u85.1) [100, 146] [] u88), L, (hv I [] [(6, 6), (6, 7)] u85.2), P, E, N) ((sgX g ++ dy) ++ sgM g) := joinR hW hB hk hS (frsub C (WB_R hW)) (fun x hx => cel_x (hv_x rfl rfl (notm hW x hx)))
            refine lv_pop hx hb dL_law_489 rfl ?_
            refine lv_goto (tgt := 1389) hx hb dL_law_490 (by decide) ?_
            obtain ⟨x89, e89⟩ : ∃ y : Int32, y = i + 5 := ⟨_, rfl⟩
            refine lv_iinc (v := x89) (lv' := [(3, .int x89), (0, .ref b), (1, .ref (g.2.2.1 12)), (2, .ref (g.2.2.1 13))]) hx hb dL_law_1389 hl (k := 0) rfl (by rw [e89]; rfl) (by decide) rfl (fun ls hl => ?_)
            try have t89 : x89.toInt = i.toInt + 5 := tadd e89 rfl kp5 (by omega)
            refine lv_goto (tgt := 18) hx hb dL_law_1392 (by decide) ?_
            refine W.widen (k := 1000 + 10 * (k + 1)) (n := 200000 + 20100 * (k + 1)) (by omega) (by omega) ?_
            exact ih (k + 1) x89 (hv (hv J [42] [] u85.1) [100, 146] [] u88) L (hv I [] [(6, 6), (6, 7)] u85.2) P E N dy H locs ls (by omega) (by omega) (by omega) hwf hwm hnow hrl hac hrel0 hrel1 hrel2 hrel3 hrel4 hrel5 hrel6 hrel7 hrel8 hrel9 hrel10 hrel11 hrel12 hrel13 hrel14 hrel15 hrel16 hrel17 hrel18 hrel19 hrel20 hrel21 hrel22 hrel23 hrel24 hrel25 hrel26 hrel27 hrel28 hrel29 hrel30 (tol_s (a := J 13 49) (k := k) hk64 (Or.inl rfl) hrel31) hrel32 hrel33 hrel34 hrel35 hrel36 hrel37 hrel38 hrel39 hrel40 hrel41 hrel42 hrel43 hrel44 hW (lv_sub hl [0, 1, 2, 3] rfl)
          · refine lv_tableIn (off := 461) (tgt := 493) hx hb dL_law_32 (Int.not_lt.mpr c6) (Int.not_lt.mpr c6b) (by rw [c6k]; rfl) (by decide) ?_
            refine lv_aload_n hx hb dL_law_493 rfl (lv_at hl 2 rfl) ?_
            refine lv_aload_n hx hb dL_law_494 rfl (lv_at hl 1 rfl) ?_
            refine lv_iload_n hx hb dL_law_495 rfl (lv_at hl 0 rfl) ?_
            refine lv_iconst (v := 1) hx hb dL_law_496 (by decide) ?_
            refine lv_iadd hx hb dL_law_497 ?_
            refine lv_topi (fun x90 (e90 : x90 = i + 1) => ?_)
            try have t90 : x90.toInt = i.toInt + 1 := tadd e90 rfl kp1 (by omega)
            have hin : vp_in x90 Lx := tin rfl (by omega)
            refine va_sld hx hb hX hbl hbA hW.2.2.1 hin dL_law_498 ?_
            refine lv_topi (fun x91 (e91 : x91 = xs x90.toNatClampNeg) => ?_)
            refine ci2_ C (WB_L hW) (runV (x := g.2.2.1 12) (As := [.int x91]) (rest := []) (T := ((J, L, I, P, E, N), sgX g ++ dy)) C (WB_L hW) (c_X11_reader_e l g J L I P E N dy H.size x91 hwf) mi_X11_reader tw_585 (recv_ (T := ((J, L, I, P, E, N), sgX g ++ dy)) C (WB_L hW) (mx_ rfl) rfl rfl) ⟨rfl, rfl, Nat.le_of_ble_eq_true rfl, Nat.le_of_ble_eq_true rfl⟩ rfl hl.1 rfl (Nat.le_of_ble_eq_true rfl) dL_law_499 ⟨by show 1000 + 10 * k + 10 ≤ 600000; omega, by show 200000 + 20100 * k + 20100 ≤ 7302250; omega⟩) (fun r92 u92 H locs hp92 hB hk hS => ?_)
            have hW : WB g A s.heap H locs ((hv J [42] [(24, 0), (24, 2)] u92.1), L, (hv I [7] [] u92.2.1), (hv P [7, 34] [] u92.2.2.1), (hv1 E [24] u92.2.2.2.1), u92.2.2.2.2.1) ((sgX g ++ u92.2.2.2.2.2) ++ sgM g) := joinL hW hB hk hS (frsub C (WB_L hW)) (okM hW (fun r h => hv_m (J := J) (R := [42]) (F := [(24, 0), (24, 2)]) rfl rfl h) (fun r h => rfl))
            obtain ⟨hc92, hwf, hdd92, hf92_0⟩ := hp92
            refine lv_pop hx hb dL_law_502 rfl ?_
            refine lv_aload_n hx hb dL_law_503 rfl (lv_at hl 3 rfl) ?_
            refine lv_aload_n hx hb dL_law_504 rfl (lv_at hl 1 rfl) ?_
            refine lv_iload_n hx hb dL_law_505 rfl (lv_at hl 0 rfl) ?_
            refine lv_iconst (v := 1) hx hb dL_law_506 (by decide) ?_
            refine lv_iadd hx hb dL_law_507 ?_
            refine lv_topi (fun x93 (e93 : x93 = i + 1) => ?_)
            try have t93 : x93.toInt = i.toInt + 1 := tadd e93 rfl kp1 (by omega)
            have hin : vp_in x93 Lx := tin rfl (by omega)
            refine va_sld hx hb hX hbl hbA hW.2.2.1 hin dL_law_508 ?_
            refine lv_as x91 (by rw [e91, e90, e93]) ?_
            refine ci2_ C (WB_R hW) (runV (x := g.2.2.1 13) (As := [.int x91]) (rest := []) (T := (((hv J [42] [(24, 0), (24, 2)] u92.1), L, (hv I [7] [] u92.2.1), (hv P [7, 34] [] u92.2.2.1), (hv1 E [24] u92.2.2.2.1), u92.2.2.2.2.1), sgM g)) C (WB_R hW) (c_X12_reader_e l g (hv J [42] [(24, 0), (24, 2)] u92.1) L (hv I [7] [] u92.2.1) (hv P [7, 34] [] u92.2.2.1) (hv1 E [24] u92.2.2.2.1) u92.2.2.2.2.1 H.size x91 hwm) mi_X12_reader tw_1306 (recv_ (T := (((hv J [42] [(24, 0), (24, 2)] u92.1), L, (hv I [7] [] u92.2.1), (hv P [7, 34] [] u92.2.2.1), (hv1 E [24] u92.2.2.2.1), u92.2.2.2.2.1), sgM g)) C (WB_R hW) (mm_ rfl) rfl rfl) ⟨rfl, rfl, Nat.le_of_ble_eq_true rfl, Nat.le_of_ble_eq_true rfl⟩ rfl hl.1 rfl (Nat.le_of_ble_eq_true rfl) dL_law_509 ⟨by show 1000 + 10 * k + 10 + 0 ≤ 600000; omega, by show 200000 + 20100 * k + 20100 + 0 ≤ 7302250; omega⟩) (fun r94 u94 H locs hp94 hB hk hS => ?_)
            have hW : WB g A s.heap H locs ((hv (hv J [42] [(24, 0), (24, 2)] u92.1) [100, 113, 114] [(13, 37)] u94), L, (hv I [7] [] u92.2.1), (hv P [7, 34] [] u92.2.2.1), (hv1 E [24] u92.2.2.2.1), u92.2.2.2.2.1) ((sgX g ++ u92.2.2.2.2.2) ++ sgM g) := joinR hW hB hk hS (frsub C (WB_R hW)) (fun x hx => cel_x (hv_x rfl rfl (notm hW x hx)))
            obtain ⟨hwm, hc94⟩ : WM (hv (hv J [42] [(24, 0), (24, 2)] u92.1) [100, 113, 114] [(13, 37)] u94) ∧ ((r94.toInt = (-4) ∧ (x91.toInt < 1) ∧ u94 13 37 = J 13 37 ∧ u94 113 = J 113 ∧ u94 114 = J 114) ∨ (r94.toInt = (-6) ∧ (1 ≤ x91.toInt ∧ (999 < x91.toInt ∨ (J 13 37).toInt = 8)) ∧ u94 13 37 = J 13 37 ∧ u94 113 = J 113 ∧ u94 114 = J 114) ∨ (r94.toInt = (J 13 37).toInt ∧ (1 ≤ x91.toInt ∧ x91.toInt ≤ 999 ∧ (J 13 37).toInt ≤ 7) ∧ (u94 13 37).toInt = (J 13 37).toInt + 1 ∧ u94 113 = up2 J 113 (J 13 37).toNatClampNeg x91 113 ∧ u94 114 = up2 J 114 (J 13 37).toNatClampNeg (-9) 114)) := hp94
            refine lv_pop hx hb dL_law_512 rfl ?_
            refine lv_goto (tgt := 1389) hx hb dL_law_513 (by decide) ?_
            obtain ⟨x95, e95⟩ : ∃ y : Int32, y = i + 5 := ⟨_, rfl⟩
            refine lv_iinc (v := x95) (lv' := [(3, .int x95), (0, .ref b), (1, .ref (g.2.2.1 12)), (2, .ref (g.2.2.1 13))]) hx hb dL_law_1389 hl (k := 0) rfl (by rw [e95]; rfl) (by decide) rfl (fun ls hl => ?_)
            try have t95 : x95.toInt = i.toInt + 5 := tadd e95 rfl kp5 (by omega)
            refine lv_goto (tgt := 18) hx hb dL_law_1392 (by decide) ?_
            refine W.widen (k := 1000 + 10 * (k + 1)) (n := 200000 + 20100 * (k + 1)) (by omega) (by omega) ?_
            obtain ⟨hnew5, hnew6, hnew7, hnew8, hnew16, hnew33⟩ := rel_reader k g J I P E N dy r92 x91 u92 r94 u94 hk64 hwf0 hwm0 hnow0 hrl0 hac0 hrel0 hrel1 hrel2 hrel3 hrel4 hrel5 hrel6 hrel7 hrel8 hrel9 hrel10 hrel11 hrel12 hrel13 hrel14 hrel15 hrel16 hrel17 hrel18 hrel19 hrel20 hrel21 hrel22 hrel23 hrel24 hrel25 hrel26 hrel27 hrel28 hrel29 hrel30 hrel31 hrel32 hrel33 hrel34 hrel35 hrel36 hrel37 hrel38 hrel39 hrel40 hrel41 hrel42 hrel43 hrel44 hc92 hf92_0 hc94
            exact ih (k + 1) x95 (hv (hv J [42] [(24, 0), (24, 2)] u92.1) [100, 113, 114] [(13, 37)] u94) L (hv I [7] [] u92.2.1) (hv P [7, 34] [] u92.2.2.1) (hv1 E [24] u92.2.2.2.1) u92.2.2.2.2.1 u92.2.2.2.2.2 H locs ls (by omega) (by omega) (by omega) hwf hwm hnow hrl hac hrel0 hrel1 hrel2 hrel3 hrel4 hnew5 hnew6 hnew7 hnew8 hrel9 hrel10 hrel11 hrel12 hrel13 hrel14 hrel15 hnew16 hrel17 hrel18 hrel19 hrel20 hrel21 hrel22 hrel23 hrel24 hrel25 hrel26 hrel27 hrel28 hrel29 hrel30 (tol_s (a := J 13 49) (k := k) hk64 (Or.inl rfl) hrel31) hrel32 hnew33 hrel34 hrel35 hrel36 hrel37 hrel38 hrel39 hrel40 hrel41 hrel42 hrel43 hrel44 hW (lv_sub hl [0, 1, 2, 3] rfl)
          · refine lv_tableIn (off := 484) (tgt := 516) hx hb dL_law_32 (Int.not_lt.mpr c6) (Int.not_lt.mpr c6b) (by rw [c6k]; rfl) (by decide) ?_
            refine lv_aload_n hx hb dL_law_516 rfl (lv_at hl 2 rfl) ?_
            refine lv_aload_n hx hb dL_law_517 rfl (lv_at hl 1 rfl) ?_
            refine lv_iload_n hx hb dL_law_518 rfl (lv_at hl 0 rfl) ?_
            refine lv_iconst (v := 1) hx hb dL_law_519 (by decide) ?_
            refine lv_iadd hx hb dL_law_520 ?_
            refine lv_topi (fun x96 (e96 : x96 = i + 1) => ?_)
            try have t96 : x96.toInt = i.toInt + 1 := tadd e96 rfl kp1 (by omega)
            have hin : vp_in x96 Lx := tin rfl (by omega)
            refine va_sld hx hb hX hbl hbA hW.2.2.1 hin dL_law_521 ?_
            refine lv_topi (fun x97 (e97 : x97 = xs x96.toNatClampNeg) => ?_)
            refine lv_aload_n hx hb dL_law_522 rfl (lv_at hl 1 rfl) ?_
            refine lv_iload_n hx hb dL_law_523 rfl (lv_at hl 0 rfl) ?_
            refine lv_iconst (v := 2) hx hb dL_law_524 (by decide) ?_
            refine lv_iadd hx hb dL_law_525 ?_
            refine lv_topi (fun x98 (e98 : x98 = i + 2) => ?_)
            try have t98 : x98.toInt = i.toInt + 2 := tadd e98 rfl kp2 (by omega)
            have hin : vp_in x98 Lx := tin rfl (by omega)
            refine va_sld hx hb hX hbl hbA hW.2.2.1 hin dL_law_526 ?_
            refine lv_topi (fun x99 (e99 : x99 = xs x98.toNatClampNeg) => ?_)
            refine ci2_ C (WB_L hW) (runV (x := g.2.2.1 12) (As := [.int x97, .int x99]) (rest := []) (T := ((J, L, I, P, E, N), sgX g ++ dy)) C (WB_L hW) (c_X11_rests l g J L I P E N dy H.size x97 x99 hwf) mi_X11_rests tw_606 (recv_ (T := ((J, L, I, P, E, N), sgX g ++ dy)) C (WB_L hW) (mx_ rfl) rfl rfl) ⟨rfl, rfl, Nat.le_of_ble_eq_true rfl, Nat.le_of_ble_eq_true rfl⟩ rfl hl.1 rfl (Nat.le_of_ble_eq_true rfl) dL_law_527 ⟨by show 1000 + 10 * k + 0 ≤ 600000; omega, by show 200000 + 20100 * k + 0 ≤ 7302250; omega⟩) (fun r100 u100 H locs hp100 hB hk hS => ?_)
            have hW : WB g A s.heap H locs ((hv J [42] [(12, 12), (12, 13)] u100), L, I, P, E, N) ((sgX g ++ dy) ++ sgM g) := joinL hW hB hk hS (frsub C (WB_L hW)) (okM hW (fun r h => hv_m (J := J) (R := [42]) (F := [(12, 12), (12, 13)]) rfl rfl h) (fun r h => rfl))
            have hc100 : ((r100.toInt = (-4) ∧ (x97.toInt < 1 ∨ x99.toInt < 0) ∧ u100 12 12 = J 12 12 ∧ u100 12 13 = J 12 13) ∨ (r100.toInt = (-6) ∧ (1 ≤ x97.toInt ∧ 0 ≤ x99.toInt ∧ (240 < x97.toInt ∨ 240 < x99.toInt)) ∧ u100 12 12 = J 12 12 ∧ u100 12 13 = J 12 13) ∨ (r100 = 1000 * J 12 12 + J 12 13 ∧ (1 ≤ x97.toInt ∧ 0 ≤ x99.toInt ∧ x97.toInt ≤ 240 ∧ x99.toInt ≤ 240) ∧ u100 12 12 = x97 ∧ u100 12 13 = x99)) := hp100
            refine lv_pop hx hb dL_law_530 rfl ?_
            refine lv_aload_n hx hb dL_law_531 rfl (lv_at hl 3 rfl) ?_
            refine lv_aload_n hx hb dL_law_532 rfl (lv_at hl 1 rfl) ?_
            refine lv_iload_n hx hb dL_law_533 rfl (lv_at hl 0 rfl) ?_
            refine lv_iconst (v := 1) hx hb dL_law_534 (by decide) ?_
            refine lv_iadd hx hb dL_law_535 ?_
            refine lv_topi (fun x101 (e101 : x101 = i + 1) => ?_)
            try have t101 : x101.toInt = i.toInt + 1 := tadd e101 rfl kp1 (by omega)
            have hin : vp_in x101 Lx := tin rfl (by omega)
            refine va_sld hx hb hX hbl hbA hW.2.2.1 hin dL_law_536 ?_
            refine lv_as x97 (by rw [e97, e96, e101]) ?_
            refine lv_aload_n hx hb dL_law_537 rfl (lv_at hl 1 rfl) ?_
            refine lv_iload_n hx hb dL_law_538 rfl (lv_at hl 0 rfl) ?_
            refine lv_iconst (v := 2) hx hb dL_law_539 (by decide) ?_
            refine lv_iadd hx hb dL_law_540 ?_
            refine lv_topi (fun x102 (e102 : x102 = i + 2) => ?_)
            try have t102 : x102.toInt = i.toInt + 2 := tadd e102 rfl kp2 (by omega)
            have hin : vp_in x102 Lx := tin rfl (by omega)
            refine va_sld hx hb hX hbl hbA hW.2.2.1 hin dL_law_541 ?_
            refine lv_as x99 (by rw [e99, e98, e102]) ?_
            refine ci2_ C (WB_R hW) (runV (x := g.2.2.1 13) (As := [.int x97, .int x99]) (rest := []) (T := (((hv J [42] [(12, 12), (12, 13)] u100), L, I, P, E, N), sgM g)) C (WB_R hW) (c_X12_rests l g (hv J [42] [(12, 12), (12, 13)] u100) L I P E N H.size x97 x99 hwm) mi_X12_rests tw_1310 (recv_ (T := (((hv J [42] [(12, 12), (12, 13)] u100), L, I, P, E, N), sgM g)) C (WB_R hW) (mm_ rfl) rfl rfl) ⟨rfl, rfl, Nat.le_of_ble_eq_true rfl, Nat.le_of_ble_eq_true rfl⟩ rfl hl.1 rfl (Nat.le_of_ble_eq_true rfl) dL_law_542 ⟨by show 1000 + 10 * k + 0 + 0 ≤ 600000; omega, by show 200000 + 20100 * k + 0 + 0 ≤ 7302250; omega⟩) (fun r103 u103 H locs hp103 hB hk hS => ?_)
            have hW : WB g A s.heap H locs ((hv (hv J [42] [(12, 12), (12, 13)] u100) [100] [(13, 38), (13, 39)] u103), L, I, P, E, N) ((sgX g ++ dy) ++ sgM g) := joinR hW hB hk hS (frsub C (WB_R hW)) (fun x hx => cel_x (hv_x rfl rfl (notm hW x hx)))
            have hc103 : ((r103.toInt = (-4) ∧ (x97.toInt < 1 ∨ x99.toInt < 0) ∧ u103 13 38 = J 13 38 ∧ u103 13 39 = J 13 39) ∨ (r103.toInt = (-6) ∧ (1 ≤ x97.toInt ∧ 0 ≤ x99.toInt ∧ (240 < x97.toInt ∨ 240 < x99.toInt)) ∧ u103 13 38 = J 13 38 ∧ u103 13 39 = J 13 39) ∨ (r103 = 1000 * J 13 38 + J 13 39 ∧ (1 ≤ x97.toInt ∧ 0 ≤ x99.toInt ∧ x97.toInt ≤ 240 ∧ x99.toInt ≤ 240) ∧ u103 13 38 = x97 ∧ u103 13 39 = x99)) := hp103
            refine lv_pop hx hb dL_law_545 rfl ?_
            refine lv_goto (tgt := 1389) hx hb dL_law_546 (by decide) ?_
            obtain ⟨x104, e104⟩ : ∃ y : Int32, y = i + 5 := ⟨_, rfl⟩
            refine lv_iinc (v := x104) (lv' := [(3, .int x104), (0, .ref b), (1, .ref (g.2.2.1 12)), (2, .ref (g.2.2.1 13))]) hx hb dL_law_1389 hl (k := 0) rfl (by rw [e104]; rfl) (by decide) rfl (fun ls hl => ?_)
            try have t104 : x104.toInt = i.toInt + 5 := tadd e104 rfl kp5 (by omega)
            refine lv_goto (tgt := 18) hx hb dL_law_1392 (by decide) ?_
            refine W.widen (k := 1000 + 10 * (k + 1)) (n := 200000 + 20100 * (k + 1)) (by omega) (by omega) ?_
            obtain ⟨hnew2, hnew3, hnew4⟩ := rel_rests k g J I P E N dy r100 x97 x99 u100 r103 u103 hk64 hwf0 hwm0 hnow0 hrl0 hac0 hrel0 hrel1 hrel2 hrel3 hrel4 hrel5 hrel6 hrel7 hrel8 hrel9 hrel10 hrel11 hrel12 hrel13 hrel14 hrel15 hrel16 hrel17 hrel18 hrel19 hrel20 hrel21 hrel22 hrel23 hrel24 hrel25 hrel26 hrel27 hrel28 hrel29 hrel30 hrel31 hrel32 hrel33 hrel34 hrel35 hrel36 hrel37 hrel38 hrel39 hrel40 hrel41 hrel42 hrel43 hrel44 hc100 hc103
            exact ih (k + 1) x104 (hv (hv J [42] [(12, 12), (12, 13)] u100) [100] [(13, 38), (13, 39)] u103) L I P E N dy H locs ls (by omega) (by omega) (by omega) hwf hwm hnow hrl hac hrel0 hrel1 hnew2 hnew3 hnew4 hrel5 hrel6 hrel7 hrel8 hrel9 hrel10 hrel11 hrel12 hrel13 hrel14 hrel15 hrel16 hrel17 hrel18 hrel19 hrel20 hrel21 hrel22 hrel23 hrel24 hrel25 hrel26 hrel27 hrel28 hrel29 hrel30 (tol_s (a := J 13 49) (k := k) hk64 (Or.inl rfl) hrel31) hrel32 hrel33 hrel34 hrel35 hrel36 hrel37 hrel38 hrel39 hrel40 hrel41 hrel42 hrel43 hrel44 hW (lv_sub hl [0, 1, 2, 3] rfl)
          · refine lv_tableIn (off := 517) (tgt := 549) hx hb dL_law_32 (Int.not_lt.mpr c6) (Int.not_lt.mpr c6b) (by rw [c6k]; rfl) (by decide) ?_
            refine lv_aload_n hx hb dL_law_549 rfl (lv_at hl 2 rfl) ?_
            refine lv_aload_n hx hb dL_law_550 rfl (lv_at hl 1 rfl) ?_
            refine lv_iload_n hx hb dL_law_551 rfl (lv_at hl 0 rfl) ?_
            refine lv_iconst (v := 1) hx hb dL_law_552 (by decide) ?_
            refine lv_iadd hx hb dL_law_553 ?_
            refine lv_topi (fun x105 (e105 : x105 = i + 1) => ?_)
            try have t105 : x105.toInt = i.toInt + 1 := tadd e105 rfl kp1 (by omega)
            have hin : vp_in x105 Lx := tin rfl (by omega)
            refine va_sld hx hb hX hbl hbA hW.2.2.1 hin dL_law_554 ?_
            refine lv_topi (fun x106 (e106 : x106 = xs x105.toNatClampNeg) => ?_)
            refine ci2_ C (WB_L hW) (runV (x := g.2.2.1 12) (As := [.int x106]) (rest := []) (T := ((J, L, I, P, E, N), sgX g ++ dy)) C (WB_L hW) (c_X11_mayRead_e l g J L I P E N dy H.size x106 hwf ⟨hnow.1, hnow.2.1⟩ (rdr_b hrel6) hrel4.2) mi_X11_mayRead tw_610 (recv_ (T := ((J, L, I, P, E, N), sgX g ++ dy)) C (WB_L hW) (mx_ rfl) rfl rfl) ⟨rfl, rfl, Nat.le_of_ble_eq_true rfl, Nat.le_of_ble_eq_true rfl⟩ rfl hl.1 rfl (Nat.le_of_ble_eq_true rfl) dL_law_555 ⟨by show 1000 + 10 * k + 0 ≤ 600000; omega, by show 200000 + 20100 * k + 0 ≤ 7302250; omega⟩) (fun r107 u107 H locs hp107 hB hk hS => ?_)
            have hW : WB g A s.heap H locs ((hv J [42] [] u107), L, I, P, E, N) ((sgX g ++ dy) ++ sgM g) := joinL hW hB hk hS (frsub C (WB_L hW)) (okM hW (fun r h => hv_m (J := J) (R := [42]) (F := []) rfl rfl h) (fun r h => rfl))
            have hc107 : ((r107.toInt = (-1) ∧ (¬ (0 ≤ x106.toInt ∧ x106.toInt < (J 24 2).toInt))) ∨ (r107.toInt = 1 ∧ (0 ≤ x106.toInt ∧ x106.toInt < (J 24 2).toInt ∧ ((I 7 2 (elt E P 24 x106.toNatClampNeg)).toInt < (J 12 12).toInt ∨ (I 7 1 (elt E P 24 x106.toNatClampNeg)).toInt + (J 12 13).toInt < (J 3 1).toInt))) ∨ (r107.toInt = 0 ∧ (0 ≤ x106.toInt ∧ x106.toInt < (J 24 2).toInt ∧ ¬ ((I 7 2 (elt E P 24 x106.toNatClampNeg)).toInt < (J 12 12).toInt ∨ (I 7 1 (elt E P 24 x106.toNatClampNeg)).toInt + (J 12 13).toInt < (J 3 1).toInt)))) := hp107
            refine lv_pop hx hb dL_law_558 rfl ?_
            refine lv_aload_n hx hb dL_law_559 rfl (lv_at hl 3 rfl) ?_
            refine lv_aload_n hx hb dL_law_560 rfl (lv_at hl 1 rfl) ?_
            refine lv_iload_n hx hb dL_law_561 rfl (lv_at hl 0 rfl) ?_
            refine lv_iconst (v := 1) hx hb dL_law_562 (by decide) ?_
            refine lv_iadd hx hb dL_law_563 ?_
            refine lv_topi (fun x108 (e108 : x108 = i + 1) => ?_)
            try have t108 : x108.toInt = i.toInt + 1 := tadd e108 rfl kp1 (by omega)
            have hin : vp_in x108 Lx := tin rfl (by omega)
            refine va_sld hx hb hX hbl hbA hW.2.2.1 hin dL_law_564 ?_
            refine lv_as x106 (by rw [e106, e105, e108]) ?_
            refine ci2_ C (WB_R hW) (runV (x := g.2.2.1 13) (As := [.int x106]) (rest := []) (T := (((hv J [42] [] u107), L, I, P, E, N), sgM g)) C (WB_R hW) (c_X12_mayRead_e l g (hv J [42] [] u107) L I P E N H.size x106 hwm (rdr_m hrel6 hrel5) (show 0 ≤ (J 13 39).toInt ∧ (J 13 39).toInt ≤ 240 from by rw [← hrel3]; exact hrel4.2)) mi_X12_mayRead tw_1314 (recv_ (T := (((hv J [42] [] u107), L, I, P, E, N), sgM g)) C (WB_R hW) (mm_ rfl) rfl rfl) ⟨rfl, rfl, Nat.le_of_ble_eq_true rfl, Nat.le_of_ble_eq_true rfl⟩ rfl hl.1 rfl (Nat.le_of_ble_eq_true rfl) dL_law_565 ⟨by show 1000 + 10 * k + 0 + 0 ≤ 600000; omega, by show 200000 + 20100 * k + 0 + 0 ≤ 7302250; omega⟩) (fun r109 u109 H locs hp109 hB hk hS => ?_)
            have hW : WB g A s.heap H locs ((hv (hv J [42] [] u107) [100] [] u109), L, I, P, E, N) ((sgX g ++ dy) ++ sgM g) := joinR hW hB hk hS (frsub C (WB_R hW)) (fun x hx => cel_x (hv_x rfl rfl (notm hW x hx)))
            refine lv_pop hx hb dL_law_568 rfl ?_
            refine lv_goto (tgt := 1389) hx hb dL_law_569 (by decide) ?_
            obtain ⟨x110, e110⟩ : ∃ y : Int32, y = i + 5 := ⟨_, rfl⟩
            refine lv_iinc (v := x110) (lv' := [(3, .int x110), (0, .ref b), (1, .ref (g.2.2.1 12)), (2, .ref (g.2.2.1 13))]) hx hb dL_law_1389 hl (k := 0) rfl (by rw [e110]; rfl) (by decide) rfl (fun ls hl => ?_)
            try have t110 : x110.toInt = i.toInt + 5 := tadd e110 rfl kp5 (by omega)
            refine lv_goto (tgt := 18) hx hb dL_law_1392 (by decide) ?_
            refine W.widen (k := 1000 + 10 * (k + 1)) (n := 200000 + 20100 * (k + 1)) (by omega) (by omega) ?_
            exact ih (k + 1) x110 (hv (hv J [42] [] u107) [100] [] u109) L I P E N dy H locs ls (by omega) (by omega) (by omega) hwf hwm hnow hrl hac hrel0 hrel1 hrel2 hrel3 hrel4 hrel5 hrel6 hrel7 hrel8 hrel9 hrel10 hrel11 hrel12 hrel13 hrel14 hrel15 hrel16 hrel17 hrel18 hrel19 hrel20 hrel21 hrel22 hrel23 hrel24 hrel25 hrel26 hrel27 hrel28 hrel29 hrel30 (tol_s (a := J 13 49) (k := k) hk64 (Or.inl rfl) hrel31) hrel32 hrel33 hrel34 hrel35 hrel36 hrel37 hrel38 hrel39 hrel40 hrel41 hrel42 hrel43 hrel44 hW (lv_sub hl [0, 1, 2, 3] rfl)
          · refine lv_tableIn (off := 540) (tgt := 572) hx hb dL_law_32 (Int.not_lt.mpr c6) (Int.not_lt.mpr c6b) (by rw [c6k]; rfl) (by decide) ?_
            refine lv_aload_n hx hb dL_law_572 rfl (lv_at hl 2 rfl) ?_
            refine lv_aload_n hx hb dL_law_573 rfl (lv_at hl 1 rfl) ?_
            refine lv_iload_n hx hb dL_law_574 rfl (lv_at hl 0 rfl) ?_
            refine lv_iconst (v := 1) hx hb dL_law_575 (by decide) ?_
            refine lv_iadd hx hb dL_law_576 ?_
            refine lv_topi (fun x111 (e111 : x111 = i + 1) => ?_)
            try have t111 : x111.toInt = i.toInt + 1 := tadd e111 rfl kp1 (by omega)
            have hin : vp_in x111 Lx := tin rfl (by omega)
            refine va_sld hx hb hX hbl hbA hW.2.2.1 hin dL_law_577 ?_
            refine lv_topi (fun x112 (e112 : x112 = xs x111.toNatClampNeg) => ?_)
            refine lv_aload_n hx hb dL_law_578 rfl (lv_at hl 1 rfl) ?_
            refine lv_iload_n hx hb dL_law_579 rfl (lv_at hl 0 rfl) ?_
            refine lv_iconst (v := 2) hx hb dL_law_580 (by decide) ?_
            refine lv_iadd hx hb dL_law_581 ?_
            refine lv_topi (fun x113 (e113 : x113 = i + 2) => ?_)
            try have t113 : x113.toInt = i.toInt + 2 := tadd e113 rfl kp2 (by omega)
            have hin : vp_in x113 Lx := tin rfl (by omega)
            refine va_sld hx hb hX hbl hbA hW.2.2.1 hin dL_law_582 ?_
            refine lv_topi (fun x114 (e114 : x114 = xs x113.toNatClampNeg) => ?_)
            refine lv_aload_n hx hb dL_law_583 rfl (lv_at hl 1 rfl) ?_
            refine lv_iload_n hx hb dL_law_584 rfl (lv_at hl 0 rfl) ?_
            refine lv_iconst (v := 3) hx hb dL_law_585 (by decide) ?_
            refine lv_iadd hx hb dL_law_586 ?_
            refine lv_topi (fun x115 (e115 : x115 = i + 3) => ?_)
            try have t115 : x115.toInt = i.toInt + 3 := tadd e115 rfl kp3 (by omega)
            have hin : vp_in x115 Lx := tin rfl (by omega)
            refine va_sld hx hb hX hbl hbA hW.2.2.1 hin dL_law_587 ?_
            refine lv_topi (fun x116 (e116 : x116 = xs x115.toNatClampNeg) => ?_)
            refine ci2_ C (WB_L hW) (runV (x := g.2.2.1 12) (As := [.int x112, .int x114, .int x116]) (rest := []) (T := ((J, L, I, P, E, N), sgX g ++ dy)) C (WB_L hW) (c_X11_say_e l g J L I P E N dy H.size x112 x114 x116 hwf ⟨hnow.1, hnow.2.1⟩ hnow.2.2 hrel9 (rdr_b hrel6) hrel4.2 (tmr_cdb hrel16)) mi_X11_say tw_623 (recv_ (T := ((J, L, I, P, E, N), sgX g ++ dy)) C (WB_L hW) (mx_ rfl) rfl rfl) ⟨rfl, rfl, Nat.le_of_ble_eq_true rfl, Nat.le_of_ble_eq_true rfl⟩ rfl hl.1 rfl (Nat.le_of_ble_eq_true rfl) dL_law_588 ⟨by show 1000 + 10 * k + 10 ≤ 600000; omega, by show 200000 + 20100 * k + 20100 ≤ 7302250; omega⟩) (fun r117 u117 H locs hp117 hB hk hS => ?_)
            have hW : WB g A s.heap H locs ((hv J [42, 45] [(3, 1), (3, 2), (3, 3), (8, 1), (8, 2), (8, 3), (8, 4), (8, 5), (8, 6), (8, 7), (8, 8), (8, 9), (27, 0), (27, 2)] u117.1), L, (hv I [9] [(5, 2), (7, 1), (7, 2)] u117.2.1), (hv P [9, 37] [] u117.2.2.1), (hv1 E [27] u117.2.2.2.1), u117.2.2.2.2.1) ((sgX g ++ u117.2.2.2.2.2) ++ sgM g) := joinL hW hB hk hS (frsub C (WB_L hW)) (okM hW (fun r h => hv_m (J := J) (R := [42, 45]) (F := [(3, 1), (3, 2), (3, 3), (8, 1), (8, 2), (8, 3), (8, 4), (8, 5), (8, 6), (8, 7), (8, 8), (8, 9), (27, 0), (27, 2)]) rfl rfl h) (fun r h => rfl))
            obtain ⟨hc117, hwf, hdd117, hf117_0, hf117_1⟩ := hp117
            have hnow := hf117_0
            refine lv_pop hx hb dL_law_591 rfl ?_
            refine lv_aload_n hx hb dL_law_592 rfl (lv_at hl 3 rfl) ?_
            refine lv_aload_n hx hb dL_law_593 rfl (lv_at hl 1 rfl) ?_
            refine lv_iload_n hx hb dL_law_594 rfl (lv_at hl 0 rfl) ?_
            refine lv_iconst (v := 1) hx hb dL_law_595 (by decide) ?_
            refine lv_iadd hx hb dL_law_596 ?_
            refine lv_topi (fun x118 (e118 : x118 = i + 1) => ?_)
            try have t118 : x118.toInt = i.toInt + 1 := tadd e118 rfl kp1 (by omega)
            have hin : vp_in x118 Lx := tin rfl (by omega)
            refine va_sld hx hb hX hbl hbA hW.2.2.1 hin dL_law_597 ?_
            refine lv_as x112 (by rw [e112, e111, e118]) ?_
            refine lv_aload_n hx hb dL_law_598 rfl (lv_at hl 1 rfl) ?_
            refine lv_iload_n hx hb dL_law_599 rfl (lv_at hl 0 rfl) ?_
            refine lv_iconst (v := 2) hx hb dL_law_600 (by decide) ?_
            refine lv_iadd hx hb dL_law_601 ?_
            refine lv_topi (fun x119 (e119 : x119 = i + 2) => ?_)
            try have t119 : x119.toInt = i.toInt + 2 := tadd e119 rfl kp2 (by omega)
            have hin : vp_in x119 Lx := tin rfl (by omega)
            refine va_sld hx hb hX hbl hbA hW.2.2.1 hin dL_law_602 ?_
            refine lv_as x114 (by rw [e114, e113, e119]) ?_
            refine lv_aload_n hx hb dL_law_603 rfl (lv_at hl 1 rfl) ?_
            refine lv_iload_n hx hb dL_law_604 rfl (lv_at hl 0 rfl) ?_
            refine lv_iconst (v := 3) hx hb dL_law_605 (by decide) ?_
            refine lv_iadd hx hb dL_law_606 ?_
            refine lv_topi (fun x120 (e120 : x120 = i + 3) => ?_)
            try have t120 : x120.toInt = i.toInt + 3 := tadd e120 rfl kp3 (by omega)
            have hin : vp_in x120 Lx := tin rfl (by omega)
            refine va_sld hx hb hX hbl hbA hW.2.2.1 hin dL_law_607 ?_
            refine lv_as x116 (by rw [e116, e115, e120]) ?_
            refine ci2_ C (WB_R hW) (runV (x := g.2.2.1 13) (As := [.int x112, .int x114, .int x116]) (rest := []) (T := (((hv J [42, 45] [(3, 1), (3, 2), (3, 3), (8, 1), (8, 2), (8, 3), (8, 4), (8, 5), (8, 6), (8, 7), (8, 8), (8, 9), (27, 0), (27, 2)] u117.1), L, (hv I [9] [(5, 2), (7, 1), (7, 2)] u117.2.1), (hv P [9, 37] [] u117.2.2.1), (hv1 E [27] u117.2.2.2.1), u117.2.2.2.2.1), sgM g)) C (WB_R hW) (c_X12_say_e l g (hv J [42, 45] [(3, 1), (3, 2), (3, 3), (8, 1), (8, 2), (8, 3), (8, 4), (8, 5), (8, 6), (8, 7), (8, 8), (8, 9), (27, 0), (27, 2)] u117.1) L (hv I [9] [(5, 2), (7, 1), (7, 2)] u117.2.1) (hv P [9, 37] [] u117.2.2.1) (hv1 E [27] u117.2.2.2.1) u117.2.2.2.2.1 H.size x112 x114 x116 hwm (rdr_m hrel6 hrel5) (show 0 ≤ (J 13 39).toInt ∧ (J 13 39).toInt ≤ 240 from by rw [← hrel3]; exact hrel4.2)) mi_X12_say tw_1322 (recv_ (T := (((hv J [42, 45] [(3, 1), (3, 2), (3, 3), (8, 1), (8, 2), (8, 3), (8, 4), (8, 5), (8, 6), (8, 7), (8, 8), (8, 9), (27, 0), (27, 2)] u117.1), L, (hv I [9] [(5, 2), (7, 1), (7, 2)] u117.2.1), (hv P [9, 37] [] u117.2.2.1), (hv1 E [27] u117.2.2.2.1), u117.2.2.2.2.1), sgM g)) C (WB_R hW) (mm_ rfl) rfl rfl) ⟨rfl, rfl, Nat.le_of_ble_eq_true rfl, Nat.le_of_ble_eq_true rfl⟩ rfl hl.1 rfl (Nat.le_of_ble_eq_true rfl) dL_law_608 ⟨by show 1000 + 10 * k + 10 + 0 ≤ 600000; omega, by show 200000 + 20100 * k + 20100 + 0 ≤ 7302250; omega⟩) (fun r121 u121 H locs hp121 hB hk hS => ?_)
            have hW : WB g A s.heap H locs ((hv (hv J [42, 45] [(3, 1), (3, 2), (3, 3), (8, 1), (8, 2), (8, 3), (8, 4), (8, 5), (8, 6), (8, 7), (8, 8), (8, 9), (27, 0), (27, 2)] u117.1) [100, 114, 115, 116, 117, 118, 119, 120, 154] [(13, 31), (13, 45), (13, 56), (13, 57), (13, 58), (13, 59), (13, 60)] u121), L, (hv I [9] [(5, 2), (7, 1), (7, 2)] u117.2.1), (hv P [9, 37] [] u117.2.2.1), (hv1 E [27] u117.2.2.2.1), u117.2.2.2.2.1) ((sgX g ++ u117.2.2.2.2.2) ++ sgM g) := joinR hW hB hk hS (frsub C (WB_R hW)) (fun x hx => cel_x (hv_x rfl rfl (notm hW x hx)))
            obtain ⟨hwm, hc121⟩ : WM (hv (hv J [42, 45] [(3, 1), (3, 2), (3, 3), (8, 1), (8, 2), (8, 3), (8, 4), (8, 5), (8, 6), (8, 7), (8, 8), (8, 9), (27, 0), (27, 2)] u117.1) [100, 114, 115, 116, 117, 118, 119, 120, 154] [(13, 31), (13, 45), (13, 56), (13, 57), (13, 58), (13, 59), (13, 60)] u121) ∧ ((r121.toInt = (-2) ∧ (¬ (0 ≤ x112.toInt ∧ x112.toInt ≤ 5 ∧ ¬ x112.toInt = 3)) ∧ u121 13 31 = J 13 31 ∧ u121 114 = J 114 ∧ u121 115 = J 115 ∧ u121 116 = J 116 ∧ u121 117 = J 117 ∧ u121 118 = J 118 ∧ u121 119 = J 119 ∧ u121 120 = J 120) ∨ (r121.toInt = (-1) ∧ (0 ≤ x112.toInt ∧ x112.toInt ≤ 5 ∧ ¬ x112.toInt = 3 ∧ ¬ (0 ≤ x114.toInt ∧ x114.toInt < (J 13 37).toInt ∧ ((x112.toInt = 1 ∨ x112.toInt = 5) → 0 ≤ x116.toInt ∧ x116.toInt < (J 13 31).toInt) ∧ (x112.toInt = 0 → x116.toInt = -1 ∨ (0 ≤ x116.toInt ∧ x116.toInt < (J 13 42).toInt)))) ∧ u121 13 31 = J 13 31 ∧ u121 114 = J 114 ∧ u121 115 = J 115 ∧ u121 116 = J 116 ∧ u121 117 = J 117 ∧ u121 118 = J 118 ∧ u121 119 = J 119 ∧ u121 120 = J 120) ∨ (r121.toInt = (-3) ∧ (0 ≤ x112.toInt ∧ x112.toInt ≤ 5 ∧ ¬ x112.toInt = 3 ∧ (0 ≤ x114.toInt ∧ x114.toInt < (J 13 37).toInt ∧ ((x112.toInt = 1 ∨ x112.toInt = 5) → 0 ≤ x116.toInt ∧ x116.toInt < (J 13 31).toInt) ∧ (x112.toInt = 0 → x116.toInt = -1 ∨ (0 ≤ x116.toInt ∧ x116.toInt < (J 13 42).toInt))) ∧ ¬ (((J 115 x114.toNatClampNeg).toInt < (J 13 38).toInt ∨ (J 114 x114.toNatClampNeg).toInt + (J 13 39).toInt < (J 13 31).toInt) ∧ ((x112.toInt = 5 → (J 116 x116.toNatClampNeg).toInt = 0) ∧ (x112.toInt = 1 → (J 116 x116.toNatClampNeg).toInt = 0 ∨ (J 116 x116.toNatClampNeg).toInt = 3 ∨ (J 116 x116.toNatClampNeg).toInt = 5)))) ∧ u121 13 31 = J 13 31 ∧ u121 114 = J 114 ∧ u121 115 = J 115 ∧ u121 116 = J 116 ∧ u121 117 = J 117 ∧ u121 118 = J 118 ∧ u121 119 = J 119 ∧ u121 120 = J 120) ∨ (r121.toInt = (-3) ∧ (0 ≤ x112.toInt ∧ x112.toInt ≤ 5 ∧ ¬ x112.toInt = 3 ∧ (0 ≤ x114.toInt ∧ x114.toInt < (J 13 37).toInt ∧ ((x112.toInt = 1 ∨ x112.toInt = 5) → 0 ≤ x116.toInt ∧ x116.toInt < (J 13 31).toInt) ∧ (x112.toInt = 0 → x116.toInt = -1 ∨ (0 ≤ x116.toInt ∧ x116.toInt < (J 13 42).toInt))) ∧ ((J 115 x114.toNatClampNeg).toInt < (J 13 38).toInt ∨ (J 114 x114.toNatClampNeg).toInt + (J 13 39).toInt < (J 13 31).toInt) ∧ ((x112.toInt = 5 → (J 116 x116.toNatClampNeg).toInt = 0) ∧ (x112.toInt = 1 → (J 116 x116.toNatClampNeg).toInt = 0 ∨ (J 116 x116.toNatClampNeg).toInt = 3 ∨ (J 116 x116.toNatClampNeg).toInt = 5)) ∧ x112.toInt = 2) ∧ (∃ v : Int32, WVM (J 121) (J 122) (J 123) (J 124) (SCL 2 (hrw (J 13 31).toInt) (J 113 x114.toNatClampNeg) 0 0 (J 13 33) 0 (J 13 35)) (J 13 40).toInt 3 (J 13 31).toInt 1 v ∧ v.toInt ≤ 0) ∧ u121 13 31 = J 13 31 ∧ u121 114 = J 114 ∧ u121 115 = J 115 ∧ u121 116 = J 116 ∧ u121 117 = J 117 ∧ u121 118 = J 118 ∧ u121 119 = J 119 ∧ u121 120 = J 120) ∨ (r121.toInt = (-6) ∧ (0 ≤ x112.toInt ∧ x112.toInt ≤ 5 ∧ ¬ x112.toInt = 3 ∧ (0 ≤ x114.toInt ∧ x114.toInt < (J 13 37).toInt ∧ ((x112.toInt = 1 ∨ x112.toInt = 5) → 0 ≤ x116.toInt ∧ x116.toInt < (J 13 31).toInt) ∧ (x112.toInt = 0 → x116.toInt = -1 ∨ (0 ≤ x116.toInt ∧ x116.toInt < (J 13 42).toInt))) ∧ ((J 115 x114.toNatClampNeg).toInt < (J 13 38).toInt ∨ (J 114 x114.toNatClampNeg).toInt + (J 13 39).toInt < (J 13 31).toInt) ∧ ((x112.toInt = 5 → (J 116 x116.toNatClampNeg).toInt = 0) ∧ (x112.toInt = 1 → (J 116 x116.toNatClampNeg).toInt = 0 ∨ (J 116 x116.toNatClampNeg).toInt = 3 ∨ (J 116 x116.toNatClampNeg).toInt = 5)) ∧ (J 13 31).toInt = 9999) ∧ (x112.toInt = 2 → (∃ v : Int32, WVM (J 121) (J 122) (J 123) (J 124) (SCL 2 (hrw (J 13 31).toInt) (J 113 x114.toNatClampNeg) 0 0 (J 13 33) 0 (J 13 35)) (J 13 40).toInt 3 (J 13 31).toInt 1 v ∧ 0 < v.toInt)) ∧ u121 13 31 = J 13 31 ∧ u121 114 = J 114 ∧ u121 115 = J 115 ∧ u121 116 = J 116 ∧ u121 117 = J 117 ∧ u121 118 = J 118 ∧ u121 119 = J 119 ∧ u121 120 = J 120) ∨ (r121.toInt = (J 13 31).toInt ∧ (0 ≤ x112.toInt ∧ x112.toInt ≤ 5 ∧ ¬ x112.toInt = 3 ∧ (0 ≤ x114.toInt ∧ x114.toInt < (J 13 37).toInt ∧ ((x112.toInt = 1 ∨ x112.toInt = 5) → 0 ≤ x116.toInt ∧ x116.toInt < (J 13 31).toInt) ∧ (x112.toInt = 0 → x116.toInt = -1 ∨ (0 ≤ x116.toInt ∧ x116.toInt < (J 13 42).toInt))) ∧ ((J 115 x114.toNatClampNeg).toInt < (J 13 38).toInt ∨ (J 114 x114.toNatClampNeg).toInt + (J 13 39).toInt < (J 13 31).toInt) ∧ ((x112.toInt = 5 → (J 116 x116.toNatClampNeg).toInt = 0) ∧ (x112.toInt = 1 → (J 116 x116.toNatClampNeg).toInt = 0 ∨ (J 116 x116.toNatClampNeg).toInt = 3 ∨ (J 116 x116.toNatClampNeg).toInt = 5)) ∧ (J 13 31).toInt ≤ 9998) ∧ (x112.toInt = 2 → (∃ v : Int32, WVM (J 121) (J 122) (J 123) (J 124) (SCL 2 (hrw (J 13 31).toInt) (J 113 x114.toNatClampNeg) 0 0 (J 13 33) 0 (J 13 35)) (J 13 40).toInt 3 (J 13 31).toInt 1 v ∧ 0 < v.toInt)) ∧ (u121 13 31).toInt = (J 13 31).toInt + 1 ∧ (∃ v : Int32, v.toInt = (if 0 ≤ (J 114 x114.toNatClampNeg).toInt ∧ (J 114 x114.toNatClampNeg).toInt = (J 13 31).toInt - 1 then (J 115 x114.toNatClampNeg).toInt + 1 else 1) ∧ u121 115 = up2 J 115 x114.toNatClampNeg v 115) ∧ u121 114 = up2 J 114 x114.toNatClampNeg (J 13 31) 114 ∧ u121 116 = up2 J 116 (J 13 31).toNatClampNeg x112 116 ∧ u121 117 = up2 J 117 (J 13 31).toNatClampNeg x114 117 ∧ u121 118 = up2 J 118 (J 13 31).toNatClampNeg (J 113 x114.toNatClampNeg) 118 ∧ u121 119 = up2 J 119 (J 13 31).toNatClampNeg (OFV x112 x116) 119 ∧ u121 120 = up2 J 120 (J 13 31).toNatClampNeg (J 13 33) 120)) := hp121
            refine lv_pop hx hb dL_law_611 rfl ?_
            refine lv_goto (tgt := 1389) hx hb dL_law_612 (by decide) ?_
            obtain ⟨x122, e122⟩ : ∃ y : Int32, y = i + 5 := ⟨_, rfl⟩
            refine lv_iinc (v := x122) (lv' := [(3, .int x122), (0, .ref b), (1, .ref (g.2.2.1 12)), (2, .ref (g.2.2.1 13))]) hx hb dL_law_1389 hl (k := 0) rfl (by rw [e122]; rfl) (by decide) rfl (fun ls hl => ?_)
            try have t122 : x122.toInt = i.toInt + 5 := tadd e122 rfl kp5 (by omega)
            refine lv_goto (tgt := 18) hx hb dL_law_1392 (by decide) ?_
            refine W.widen (k := 1000 + 10 * (k + 1)) (n := 200000 + 20100 * (k + 1)) (by omega) (by omega) ?_
            obtain ⟨hnew0, hnew6, hnew7, hnew9, hnew16, hnew32, hnew33⟩ := rel_say k g J I P E N dy r117 x112 u117 x114 x116 r121 u121 hk64 hwf0 hwm0 hnow0 hrl0 hac0 hrel0 hrel1 hrel2 hrel3 hrel4 hrel5 hrel6 hrel7 hrel8 hrel9 hrel10 hrel11 hrel12 hrel13 hrel14 hrel15 hrel16 hrel17 hrel18 hrel19 hrel20 hrel21 hrel22 hrel23 hrel24 hrel25 hrel26 hrel27 hrel28 hrel29 hrel30 hrel31 hrel32 hrel33 hrel34 hrel35 hrel36 hrel37 hrel38 hrel39 hrel40 hrel41 hrel42 hrel43 hrel44 hc117 hf117_0 hf117_1 hc121
            exact ih (k + 1) x122 (hv (hv J [42, 45] [(3, 1), (3, 2), (3, 3), (8, 1), (8, 2), (8, 3), (8, 4), (8, 5), (8, 6), (8, 7), (8, 8), (8, 9), (27, 0), (27, 2)] u117.1) [100, 114, 115, 116, 117, 118, 119, 120, 154] [(13, 31), (13, 45), (13, 56), (13, 57), (13, 58), (13, 59), (13, 60)] u121) L (hv I [9] [(5, 2), (7, 1), (7, 2)] u117.2.1) (hv P [9, 37] [] u117.2.2.1) (hv1 E [27] u117.2.2.2.1) u117.2.2.2.2.1 u117.2.2.2.2.2 H locs ls (by omega) (by omega) (by omega) hwf hwm hnow hrl hac hnew0 hrel1 hrel2 hrel3 hrel4 hrel5 hnew6 hnew7 hrel8 hnew9 hrel10 hrel11 hrel12 hrel13 hrel14 hrel15 hnew16 hrel17 hrel18 hrel19 hrel20 hrel21 hrel22 hrel23 hrel24 hrel25 hrel26 hrel27 hrel28 hrel29 hrel30 (tol_s (a := J 13 49) (k := k) hk64 (Or.inl rfl) hrel31) hnew32 hnew33 hrel34 hrel35 hrel36 hrel37 hrel38 hrel39 hrel40 hrel41 hrel42 hrel43 hrel44 hW (lv_sub hl [0, 1, 2, 3] rfl)
          · refine lv_tableIn (off := 583) (tgt := 615) hx hb dL_law_32 (Int.not_lt.mpr c6) (Int.not_lt.mpr c6b) (by rw [c6k]; rfl) (by decide) ?_
            refine lv_aload_n hx hb dL_law_615 rfl (lv_at hl 2 rfl) ?_
            refine lv_aload_n hx hb dL_law_616 rfl (lv_at hl 1 rfl) ?_
            refine lv_iload_n hx hb dL_law_617 rfl (lv_at hl 0 rfl) ?_
            refine lv_iconst (v := 1) hx hb dL_law_618 (by decide) ?_
            refine lv_iadd hx hb dL_law_619 ?_
            refine lv_topi (fun x123 (e123 : x123 = i + 1) => ?_)
            try have t123 : x123.toInt = i.toInt + 1 := tadd e123 rfl kp1 (by omega)
            have hin : vp_in x123 Lx := tin rfl (by omega)
            refine va_sld hx hb hX hbl hbA hW.2.2.1 hin dL_law_620 ?_
            refine lv_topi (fun x124 (e124 : x124 = xs x123.toNatClampNeg) => ?_)
            refine ci2_ C (WB_L hW) (runV (x := g.2.2.1 12) (As := [.int x124]) (rest := []) (T := ((J, L, I, P, E, N), sgX g ++ dy)) C (WB_L hW) (c_X11_stage_e l g J L I P E N dy H.size x124 hwf ⟨hnow.1, hnow.2.1⟩ hnow.2.2) mi_X11_stage tw_704 (recv_ (T := ((J, L, I, P, E, N), sgX g ++ dy)) C (WB_L hW) (mx_ rfl) rfl rfl) ⟨rfl, rfl, Nat.le_of_ble_eq_true rfl, Nat.le_of_ble_eq_true rfl⟩ rfl hl.1 rfl (Nat.le_of_ble_eq_true rfl) dL_law_621 ⟨by show 1000 + 10 * k + 10 ≤ 600000; omega, by show 200000 + 20100 * k + 20100 ≤ 7302250; omega⟩) (fun r125 u125 H locs hp125 hB hk hS => ?_)
            have hW : WB g A s.heap H locs ((hv J [42] [(3, 1), (3, 2), (3, 3), (27, 0), (27, 2)] u125.1), L, (hv I [9] [] u125.2.1), (hv P [9, 37] [] u125.2.2.1), (hv1 E [27] u125.2.2.2.1), u125.2.2.2.2.1) ((sgX g ++ u125.2.2.2.2.2) ++ sgM g) := joinL hW hB hk hS (frsub C (WB_L hW)) (okM hW (fun r h => hv_m (J := J) (R := [42]) (F := [(3, 1), (3, 2), (3, 3), (27, 0), (27, 2)]) rfl rfl h) (fun r h => rfl))
            obtain ⟨hc125, hwf, hdd125, hf125_0, hf125_1⟩ := hp125
            have hnow := hf125_0
            refine lv_pop hx hb dL_law_624 rfl ?_
            refine lv_aload_n hx hb dL_law_625 rfl (lv_at hl 3 rfl) ?_
            refine lv_aload_n hx hb dL_law_626 rfl (lv_at hl 1 rfl) ?_
            refine lv_iload_n hx hb dL_law_627 rfl (lv_at hl 0 rfl) ?_
            refine lv_iconst (v := 1) hx hb dL_law_628 (by decide) ?_
            refine lv_iadd hx hb dL_law_629 ?_
            refine lv_topi (fun x126 (e126 : x126 = i + 1) => ?_)
            try have t126 : x126.toInt = i.toInt + 1 := tadd e126 rfl kp1 (by omega)
            have hin : vp_in x126 Lx := tin rfl (by omega)
            refine va_sld hx hb hX hbl hbA hW.2.2.1 hin dL_law_630 ?_
            refine lv_as x124 (by rw [e124, e123, e126]) ?_
            refine ci2_ C (WB_R hW) (runV (x := g.2.2.1 13) (As := [.int x124]) (rest := []) (T := (((hv J [42] [(3, 1), (3, 2), (3, 3), (27, 0), (27, 2)] u125.1), L, (hv I [9] [] u125.2.1), (hv P [9, 37] [] u125.2.2.1), (hv1 E [27] u125.2.2.2.1), u125.2.2.2.2.1), sgM g)) C (WB_R hW) (c_X12_stage_e l g (hv J [42] [(3, 1), (3, 2), (3, 3), (27, 0), (27, 2)] u125.1) L (hv I [9] [] u125.2.1) (hv P [9, 37] [] u125.2.2.1) (hv1 E [27] u125.2.2.2.1) u125.2.2.2.2.1 H.size x124 hwm) mi_X12_stage tw_1382 (recv_ (T := (((hv J [42] [(3, 1), (3, 2), (3, 3), (27, 0), (27, 2)] u125.1), L, (hv I [9] [] u125.2.1), (hv P [9, 37] [] u125.2.2.1), (hv1 E [27] u125.2.2.2.1), u125.2.2.2.2.1), sgM g)) C (WB_R hW) (mm_ rfl) rfl rfl) ⟨rfl, rfl, Nat.le_of_ble_eq_true rfl, Nat.le_of_ble_eq_true rfl⟩ rfl hl.1 rfl (Nat.le_of_ble_eq_true rfl) dL_law_631 ⟨by show 1000 + 10 * k + 10 + 0 ≤ 600000; omega, by show 200000 + 20100 * k + 20100 + 0 ≤ 7302250; omega⟩) (fun r127 u127 H locs hp127 hB hk hS => ?_)
            have hW : WB g A s.heap H locs ((hv (hv J [42] [(3, 1), (3, 2), (3, 3), (27, 0), (27, 2)] u125.1) [100, 116, 117, 118, 119, 120] [(13, 31)] u127), L, (hv I [9] [] u125.2.1), (hv P [9, 37] [] u125.2.2.1), (hv1 E [27] u125.2.2.2.1), u125.2.2.2.2.1) ((sgX g ++ u125.2.2.2.2.2) ++ sgM g) := joinR hW hB hk hS (frsub C (WB_R hW)) (fun x hx => cel_x (hv_x rfl rfl (notm hW x hx)))
            obtain ⟨hwm, hc127⟩ : WM (hv (hv J [42] [(3, 1), (3, 2), (3, 3), (27, 0), (27, 2)] u125.1) [100, 116, 117, 118, 119, 120] [(13, 31)] u127) ∧ ((r127.toInt = (-4) ∧ (x124.toInt < 1) ∧ u127 13 31 = J 13 31 ∧ u127 116 = J 116 ∧ u127 117 = J 117 ∧ u127 118 = J 118 ∧ u127 119 = J 119 ∧ u127 120 = J 120) ∨ (r127.toInt = (-6) ∧ (1 ≤ x124.toInt ∧ (999 < x124.toInt ∨ (J 13 31).toInt = 9999)) ∧ u127 13 31 = J 13 31 ∧ u127 116 = J 116 ∧ u127 117 = J 117 ∧ u127 118 = J 118 ∧ u127 119 = J 119 ∧ u127 120 = J 120) ∨ (r127.toInt = (J 13 31).toInt ∧ (1 ≤ x124.toInt ∧ x124.toInt ≤ 999 ∧ (J 13 31).toInt ≤ 9998) ∧ (u127 13 31).toInt = (J 13 31).toInt + 1 ∧ u127 116 = up2 J 116 (J 13 31).toNatClampNeg 3 116 ∧ u127 117 = up2 J 117 (J 13 31).toNatClampNeg (-9) 117 ∧ u127 118 = up2 J 118 (J 13 31).toNatClampNeg x124 118 ∧ u127 119 = up2 J 119 (J 13 31).toNatClampNeg (-9) 119 ∧ u127 120 = up2 J 120 (J 13 31).toNatClampNeg (J 13 33) 120)) := hp127
            refine lv_pop hx hb dL_law_634 rfl ?_
            refine lv_goto (tgt := 1389) hx hb dL_law_635 (by decide) ?_
            obtain ⟨x128, e128⟩ : ∃ y : Int32, y = i + 5 := ⟨_, rfl⟩
            refine lv_iinc (v := x128) (lv' := [(3, .int x128), (0, .ref b), (1, .ref (g.2.2.1 12)), (2, .ref (g.2.2.1 13))]) hx hb dL_law_1389 hl (k := 0) rfl (by rw [e128]; rfl) (by decide) rfl (fun ls hl => ?_)
            try have t128 : x128.toInt = i.toInt + 5 := tadd e128 rfl kp5 (by omega)
            refine lv_goto (tgt := 18) hx hb dL_law_1392 (by decide) ?_
            refine W.widen (k := 1000 + 10 * (k + 1)) (n := 200000 + 20100 * (k + 1)) (by omega) (by omega) ?_
            obtain ⟨hnew0, hnew9, hnew16, hnew32, hnew33⟩ := rel_stage k g J I P E N dy r125 x124 u125 r127 u127 hk64 hwf0 hwm0 hnow0 hrl0 hac0 hrel0 hrel1 hrel2 hrel3 hrel4 hrel5 hrel6 hrel7 hrel8 hrel9 hrel10 hrel11 hrel12 hrel13 hrel14 hrel15 hrel16 hrel17 hrel18 hrel19 hrel20 hrel21 hrel22 hrel23 hrel24 hrel25 hrel26 hrel27 hrel28 hrel29 hrel30 hrel31 hrel32 hrel33 hrel34 hrel35 hrel36 hrel37 hrel38 hrel39 hrel40 hrel41 hrel42 hrel43 hrel44 hc125 hf125_0 hf125_1 hc127
            exact ih (k + 1) x128 (hv (hv J [42] [(3, 1), (3, 2), (3, 3), (27, 0), (27, 2)] u125.1) [100, 116, 117, 118, 119, 120] [(13, 31)] u127) L (hv I [9] [] u125.2.1) (hv P [9, 37] [] u125.2.2.1) (hv1 E [27] u125.2.2.2.1) u125.2.2.2.2.1 u125.2.2.2.2.2 H locs ls (by omega) (by omega) (by omega) hwf hwm hnow hrl hac hnew0 hrel1 hrel2 hrel3 hrel4 hrel5 hrel6 hrel7 hrel8 hnew9 hrel10 hrel11 hrel12 hrel13 hrel14 hrel15 hnew16 hrel17 hrel18 hrel19 hrel20 hrel21 hrel22 hrel23 hrel24 hrel25 hrel26 hrel27 hrel28 hrel29 hrel30 (tol_s (a := J 13 49) (k := k) hk64 (Or.inl rfl) hrel31) hnew32 hnew33 hrel34 hrel35 hrel36 hrel37 hrel38 hrel39 hrel40 hrel41 hrel42 hrel43 hrel44 hW (lv_sub hl [0, 1, 2, 3] rfl)
          · refine lv_tableIn (off := 606) (tgt := 638) hx hb dL_law_32 (Int.not_lt.mpr c6) (Int.not_lt.mpr c6b) (by rw [c6k]; rfl) (by decide) ?_
            refine lv_aload_n hx hb dL_law_638 rfl (lv_at hl 2 rfl) ?_
            refine lv_aload_n hx hb dL_law_639 rfl (lv_at hl 1 rfl) ?_
            refine lv_iload_n hx hb dL_law_640 rfl (lv_at hl 0 rfl) ?_
            refine lv_iconst (v := 1) hx hb dL_law_641 (by decide) ?_
            refine lv_iadd hx hb dL_law_642 ?_
            refine lv_topi (fun x129 (e129 : x129 = i + 1) => ?_)
            try have t129 : x129.toInt = i.toInt + 1 := tadd e129 rfl kp1 (by omega)
            have hin : vp_in x129 Lx := tin rfl (by omega)
            refine va_sld hx hb hX hbl hbA hW.2.2.1 hin dL_law_643 ?_
            refine lv_topi (fun x130 (e130 : x130 = xs x129.toNatClampNeg) => ?_)
            refine lv_aload_n hx hb dL_law_644 rfl (lv_at hl 1 rfl) ?_
            refine lv_iload_n hx hb dL_law_645 rfl (lv_at hl 0 rfl) ?_
            refine lv_iconst (v := 2) hx hb dL_law_646 (by decide) ?_
            refine lv_iadd hx hb dL_law_647 ?_
            refine lv_topi (fun x131 (e131 : x131 = i + 2) => ?_)
            try have t131 : x131.toInt = i.toInt + 2 := tadd e131 rfl kp2 (by omega)
            have hin : vp_in x131 Lx := tin rfl (by omega)
            refine va_sld hx hb hX hbl hbA hW.2.2.1 hin dL_law_648 ?_
            refine lv_topi (fun x132 (e132 : x132 = xs x131.toNatClampNeg) => ?_)
            refine ci2_ C (WB_L hW) (runV (x := g.2.2.1 12) (As := [.int x130, .int x132]) (rest := []) (T := ((J, L, I, P, E, N), sgX g ++ dy)) C (WB_L hW) (c_X11_minuteOf_e l g J L I P E N dy H.size x130 x132 hwf hrel21 hrel20 hrel27 hrel28 hrel9 hnow.2.1) mi_X11_minuteOf tw_708 (recv_ (T := ((J, L, I, P, E, N), sgX g ++ dy)) C (WB_L hW) (mx_ rfl) rfl rfl) ⟨rfl, rfl, Nat.le_of_ble_eq_true rfl, Nat.le_of_ble_eq_true rfl⟩ rfl hl.1 rfl (Nat.le_of_ble_eq_true rfl) dL_law_649 ⟨by show 1000 + 10 * k + 0 ≤ 600000; omega, by show 200000 + 20100 * k + 0 ≤ 7302250; omega⟩) (fun r133 u133 H locs hp133 hB hk hS => ?_)
            have hW : WB g A s.heap H locs ((hv J [42] [(4, 6), (4, 7)] u133.1), L, (hv I [] [(6, 6), (6, 7)] u133.2), P, E, N) ((sgX g ++ dy) ++ sgM g) := joinL hW hB hk hS (frsub C (WB_L hW)) (okM hW (fun r h => hv_m (J := J) (R := [42]) (F := [(4, 6), (4, 7)]) rfl rfl h) (fun r h => rfl))
            have hc133 : ((r133.toInt = (-1) ∧ (¬ (0 ≤ x130.toInt ∧ x130.toInt < (J 3 1).toInt))) ∨ (r133.toInt = (-2) ∧ (0 ≤ x130.toInt ∧ x130.toInt < (J 3 1).toInt ∧ (x132.toInt < 0 ∨ 6 < x132.toInt))) ∨ (r133 = J 116 x130.toNatClampNeg ∧ (0 ≤ x130.toInt ∧ x130.toInt < (J 3 1).toInt ∧ x132.toInt = 0)) ∨ (r133 = J 117 x130.toNatClampNeg ∧ (0 ≤ x130.toInt ∧ x130.toInt < (J 3 1).toInt ∧ x132.toInt = 1)) ∨ (r133 = J 118 x130.toNatClampNeg ∧ (0 ≤ x130.toInt ∧ x130.toInt < (J 3 1).toInt ∧ x132.toInt = 2)) ∨ (r133 = J 119 x130.toNatClampNeg ∧ (0 ≤ x130.toInt ∧ x130.toInt < (J 3 1).toInt ∧ x132.toInt = 3)) ∨ (r133 = J 120 x130.toNatClampNeg ∧ (0 ≤ x130.toInt ∧ x130.toInt < (J 3 1).toInt ∧ x132.toInt = 6)) ∨ (r133 = r133 ∧ (0 ≤ x130.toInt ∧ x130.toInt < (J 3 1).toInt ∧ x132.toInt = 4) ∧ ((J 116 x130.toNatClampNeg).toInt = 6 → r133.toInt = 0) ∧ (¬ (J 116 x130.toNatClampNeg).toInt = 6 → ∃ x : Nat → Int32, SND x (J 101) (fun k => I 6 1 (elt E P 20 k)) (fun k => I 6 3 (elt E P 20 k)) (fun k => I 6 5 (elt E P 20 k)) (CUTP (J 105) (J 106) (J 107) (J 21 2).toInt x130.toInt) (J 118 x130.toNatClampNeg) (J 120 x130.toNatClampNeg) (J 20 2).toInt ∧ r133.toInt = CT2 (HF (J 116 x130.toNatClampNeg) (J 110) (J 111) x130.toInt (J 4 5) (J 109) (J 108) x) (J 22 2).toInt.toNat)) ∨ (r133 = r133 ∧ (0 ≤ x130.toInt ∧ x130.toInt < (J 3 1).toInt ∧ x132.toInt = 5) ∧ ((J 116 x130.toNatClampNeg).toInt = 6 → r133.toInt = 0) ∧ (¬ (J 116 x130.toNatClampNeg).toInt = 6 → ∃ x : Nat → Int32, SND x (J 101) (fun k => I 6 1 (elt E P 20 k)) (fun k => I 6 3 (elt E P 20 k)) (fun k => I 6 5 (elt E P 20 k)) (CUTP (J 105) (J 106) (J 107) (J 21 2).toInt x130.toInt) (J 118 x130.toNatClampNeg) (J 120 x130.toNatClampNeg) (J 20 2).toInt ∧ r133.toInt = CT1 (HF (J 116 x130.toNatClampNeg) (J 110) (J 111) x130.toInt (J 4 5) (J 109) (J 108) x) (J 22 2).toInt.toNat))) := hp133
            refine lv_pop hx hb dL_law_652 rfl ?_
            refine lv_aload_n hx hb dL_law_653 rfl (lv_at hl 3 rfl) ?_
            refine lv_aload_n hx hb dL_law_654 rfl (lv_at hl 1 rfl) ?_
            refine lv_iload_n hx hb dL_law_655 rfl (lv_at hl 0 rfl) ?_
            refine lv_iconst (v := 1) hx hb dL_law_656 (by decide) ?_
            refine lv_iadd hx hb dL_law_657 ?_
            refine lv_topi (fun x134 (e134 : x134 = i + 1) => ?_)
            try have t134 : x134.toInt = i.toInt + 1 := tadd e134 rfl kp1 (by omega)
            have hin : vp_in x134 Lx := tin rfl (by omega)
            refine va_sld hx hb hX hbl hbA hW.2.2.1 hin dL_law_658 ?_
            refine lv_as x130 (by rw [e130, e129, e134]) ?_
            refine lv_aload_n hx hb dL_law_659 rfl (lv_at hl 1 rfl) ?_
            refine lv_iload_n hx hb dL_law_660 rfl (lv_at hl 0 rfl) ?_
            refine lv_iconst (v := 2) hx hb dL_law_661 (by decide) ?_
            refine lv_iadd hx hb dL_law_662 ?_
            refine lv_topi (fun x135 (e135 : x135 = i + 2) => ?_)
            try have t135 : x135.toInt = i.toInt + 2 := tadd e135 rfl kp2 (by omega)
            have hin : vp_in x135 Lx := tin rfl (by omega)
            refine va_sld hx hb hX hbl hbA hW.2.2.1 hin dL_law_663 ?_
            refine lv_as x132 (by rw [e132, e131, e135]) ?_
            refine ci2_ C (WB_R hW) (runV (x := g.2.2.1 13) (As := [.int x130, .int x132]) (rest := []) (T := (((hv J [42] [(4, 6), (4, 7)] u133.1), L, (hv I [] [(6, 6), (6, 7)] u133.2), P, E, N), sgM g)) C (WB_R hW) (c_X12_minuteOf_e l g (hv J [42] [(4, 6), (4, 7)] u133.1) L (hv I [] [(6, 6), (6, 7)] u133.2) P E N H.size x130 x132 hwm hrel32) mi_X12_minuteOf tw_1386 (recv_ (T := (((hv J [42] [(4, 6), (4, 7)] u133.1), L, (hv I [] [(6, 6), (6, 7)] u133.2), P, E, N), sgM g)) C (WB_R hW) (mm_ rfl) rfl rfl) ⟨rfl, rfl, Nat.le_of_ble_eq_true rfl, Nat.le_of_ble_eq_true rfl⟩ rfl hl.1 rfl (Nat.le_of_ble_eq_true rfl) dL_law_664 ⟨by show 1000 + 10 * k + 0 + 0 ≤ 600000; omega, by show 200000 + 20100 * k + 0 + 0 ≤ 7302250; omega⟩) (fun r136 u136 H locs hp136 hB hk hS => ?_)
            have hW : WB g A s.heap H locs ((hv (hv J [42] [(4, 6), (4, 7)] u133.1) [100, 146, 150, 151, 152] [(13, 47), (13, 48)] u136), L, (hv I [] [(6, 6), (6, 7)] u133.2), P, E, N) ((sgX g ++ dy) ++ sgM g) := joinR hW hB hk hS (frsub C (WB_R hW)) (fun x hx => cel_x (hv_x rfl rfl (notm hW x hx)))
            obtain ⟨hc136, hf136_0⟩ : ((r136.toInt = (-1) ∧ (¬ (0 ≤ x130.toInt ∧ x130.toInt < (J 13 31).toInt))) ∨ (r136.toInt = (-2) ∧ (0 ≤ x130.toInt ∧ x130.toInt < (J 13 31).toInt ∧ (x132.toInt < 0 ∨ 6 < x132.toInt))) ∨ (r136 = J 116 x130.toNatClampNeg ∧ (0 ≤ x130.toInt ∧ x130.toInt < (J 13 31).toInt ∧ x132.toInt = 0)) ∨ (r136 = J 117 x130.toNatClampNeg ∧ (0 ≤ x130.toInt ∧ x130.toInt < (J 13 31).toInt ∧ x132.toInt = 1)) ∨ (r136 = J 118 x130.toNatClampNeg ∧ (0 ≤ x130.toInt ∧ x130.toInt < (J 13 31).toInt ∧ x132.toInt = 2)) ∨ (r136 = J 119 x130.toNatClampNeg ∧ (0 ≤ x130.toInt ∧ x130.toInt < (J 13 31).toInt ∧ x132.toInt = 3)) ∨ (r136 = J 120 x130.toNatClampNeg ∧ (0 ≤ x130.toInt ∧ x130.toInt < (J 13 31).toInt ∧ x132.toInt = 6)) ∨ (r136 = r136 ∧ (0 ≤ x130.toInt ∧ x130.toInt < (J 13 31).toInt ∧ x132.toInt = 4) ∧ ((J 116 x130.toNatClampNeg).toInt = 6 → r136.toInt = 0) ∧ (¬ (J 116 x130.toNatClampNeg).toInt = 6 → ∃ o : Int, CAV (hv J [42] [(4, 6), (4, 7)] u133.1) x130.toNatClampNeg r136.toInt o)) ∨ (r136 = r136 ∧ (0 ≤ x130.toInt ∧ x130.toInt < (J 13 31).toInt ∧ x132.toInt = 5) ∧ ((J 116 x130.toNatClampNeg).toInt = 6 → r136.toInt = 0) ∧ (¬ (J 116 x130.toNatClampNeg).toInt = 6 → ∃ s : Int, CAV (hv J [42] [(4, 6), (4, 7)] u133.1) x130.toNatClampNeg s r136.toInt))) ∧ (CAC (hv (hv J [42] [(4, 6), (4, 7)] u133.1) [100, 146, 150, 151, 152] [(13, 47), (13, 48)] u136)) := hp136
            refine lv_pop hx hb dL_law_667 rfl ?_
            refine lv_goto (tgt := 1389) hx hb dL_law_668 (by decide) ?_
            obtain ⟨x137, e137⟩ : ∃ y : Int32, y = i + 5 := ⟨_, rfl⟩
            refine lv_iinc (v := x137) (lv' := [(3, .int x137), (0, .ref b), (1, .ref (g.2.2.1 12)), (2, .ref (g.2.2.1 13))]) hx hb dL_law_1389 hl (k := 0) rfl (by rw [e137]; rfl) (by decide) rfl (fun ls hl => ?_)
            try have t137 : x137.toInt = i.toInt + 5 := tadd e137 rfl kp5 (by omega)
            refine lv_goto (tgt := 18) hx hb dL_law_1392 (by decide) ?_
            refine W.widen (k := 1000 + 10 * (k + 1)) (n := 200000 + 20100 * (k + 1)) (by omega) (by omega) ?_
            obtain hnew32 := rel_minuteOf k g J I P E N dy r133 x130 x132 r136 u133 u136 hk64 hwf0 hwm0 hnow0 hrl0 hac0 hrel0 hrel1 hrel2 hrel3 hrel4 hrel5 hrel6 hrel7 hrel8 hrel9 hrel10 hrel11 hrel12 hrel13 hrel14 hrel15 hrel16 hrel17 hrel18 hrel19 hrel20 hrel21 hrel22 hrel23 hrel24 hrel25 hrel26 hrel27 hrel28 hrel29 hrel30 hrel31 hrel32 hrel33 hrel34 hrel35 hrel36 hrel37 hrel38 hrel39 hrel40 hrel41 hrel42 hrel43 hrel44 hc133 hc136 hf136_0
            exact ih (k + 1) x137 (hv (hv J [42] [(4, 6), (4, 7)] u133.1) [100, 146, 150, 151, 152] [(13, 47), (13, 48)] u136) L (hv I [] [(6, 6), (6, 7)] u133.2) P E N dy H locs ls (by omega) (by omega) (by omega) hwf hwm hnow hrl hac hrel0 hrel1 hrel2 hrel3 hrel4 hrel5 hrel6 hrel7 hrel8 hrel9 hrel10 hrel11 hrel12 hrel13 hrel14 hrel15 hrel16 hrel17 hrel18 hrel19 hrel20 hrel21 hrel22 hrel23 hrel24 hrel25 hrel26 hrel27 hrel28 hrel29 hrel30 (tol_s (a := J 13 49) (k := k) hk64 (Or.inl rfl) hrel31) hnew32 hrel33 hrel34 hrel35 hrel36 hrel37 hrel38 hrel39 hrel40 hrel41 hrel42 hrel43 hrel44 hW (lv_sub hl [0, 1, 2, 3] rfl)
          · refine lv_tableIn (off := 639) (tgt := 671) hx hb dL_law_32 (Int.not_lt.mpr c6) (Int.not_lt.mpr c6b) (by rw [c6k]; rfl) (by decide) ?_
            refine lv_aload_n hx hb dL_law_671 rfl (lv_at hl 2 rfl) ?_
            refine lv_aload_n hx hb dL_law_672 rfl (lv_at hl 1 rfl) ?_
            refine lv_iload_n hx hb dL_law_673 rfl (lv_at hl 0 rfl) ?_
            refine lv_iconst (v := 1) hx hb dL_law_674 (by decide) ?_
            refine lv_iadd hx hb dL_law_675 ?_
            refine lv_topi (fun x138 (e138 : x138 = i + 1) => ?_)
            try have t138 : x138.toInt = i.toInt + 1 := tadd e138 rfl kp1 (by omega)
            have hin : vp_in x138 Lx := tin rfl (by omega)
            refine va_sld hx hb hX hbl hbA hW.2.2.1 hin dL_law_676 ?_
            refine lv_topi (fun x139 (e139 : x139 = xs x138.toNatClampNeg) => ?_)
            refine lv_aload_n hx hb dL_law_677 rfl (lv_at hl 1 rfl) ?_
            refine lv_iload_n hx hb dL_law_678 rfl (lv_at hl 0 rfl) ?_
            refine lv_iconst (v := 2) hx hb dL_law_679 (by decide) ?_
            refine lv_iadd hx hb dL_law_680 ?_
            refine lv_topi (fun x140 (e140 : x140 = i + 2) => ?_)
            try have t140 : x140.toInt = i.toInt + 2 := tadd e140 rfl kp2 (by omega)
            have hin : vp_in x140 Lx := tin rfl (by omega)
            refine va_sld hx hb hX hbl hbA hW.2.2.1 hin dL_law_681 ?_
            refine lv_topi (fun x141 (e141 : x141 = xs x140.toNatClampNeg) => ?_)
            refine ci2_ C (WB_L hW) (runV (x := g.2.2.1 12) (As := [.int x139, .int x141]) (rest := []) (T := ((J, L, I, P, E, N), sgX g ++ dy)) C (WB_L hW) (c_X11_heard_e l g J L I P E N dy H.size x139 x141 hwf hrel21 hrel20 hrel27 hrel28 hrel9 hnow.2.1) mi_X11_heard tw_723 (recv_ (T := ((J, L, I, P, E, N), sgX g ++ dy)) C (WB_L hW) (mx_ rfl) rfl rfl) ⟨rfl, rfl, Nat.le_of_ble_eq_true rfl, Nat.le_of_ble_eq_true rfl⟩ rfl hl.1 rfl (Nat.le_of_ble_eq_true rfl) dL_law_682 ⟨by show 1000 + 10 * k + 0 ≤ 600000; omega, by show 200000 + 20100 * k + 0 ≤ 7302250; omega⟩) (fun r142 u142 H locs hp142 hB hk hS => ?_)
            have hW : WB g A s.heap H locs ((hv J [42] [] u142.1), L, (hv I [] [(6, 6), (6, 7)] u142.2), P, E, N) ((sgX g ++ dy) ++ sgM g) := joinL hW hB hk hS (frsub C (WB_L hW)) (okM hW (fun r h => hv_m (J := J) (R := [42]) (F := []) rfl rfl h) (fun r h => rfl))
            have hc142 : ((r142.toInt = (-1) ∧ (¬ ((0 ≤ x139.toInt ∧ x139.toInt < (J 3 1).toInt) ∧ 0 ≤ x141.toInt ∧ x141.toInt < (J 22 2).toInt))) ∨ (r142 = r142 ∧ ((0 ≤ x139.toInt ∧ x139.toInt < (J 3 1).toInt) ∧ 0 ≤ x141.toInt ∧ x141.toInt < (J 22 2).toInt) ∧ (∃ x : Nat → Int32, SND x (J 101) (fun k => I 6 1 (elt E P 20 k)) (fun k => I 6 3 (elt E P 20 k)) (fun k => I 6 5 (elt E P 20 k)) (CUTP (J 105) (J 106) (J 107) (J 21 2).toInt x139.toInt) (J 118 x139.toNatClampNeg) (J 120 x139.toNatClampNeg) (J 20 2).toInt ∧ r142.toInt = HWV (J 116 x139.toNatClampNeg) (J 110 x141.toNatClampNeg) (J 111 x141.toNatClampNeg) x139.toInt (J 4 5 * J 109 x141.toNatClampNeg).toInt (x (J 108 x141.toNatClampNeg).toNatClampNeg).toInt))) := hp142
            refine lv_pop hx hb dL_law_685 rfl ?_
            refine lv_aload_n hx hb dL_law_686 rfl (lv_at hl 3 rfl) ?_
            refine lv_aload_n hx hb dL_law_687 rfl (lv_at hl 1 rfl) ?_
            refine lv_iload_n hx hb dL_law_688 rfl (lv_at hl 0 rfl) ?_
            refine lv_iconst (v := 1) hx hb dL_law_689 (by decide) ?_
            refine lv_iadd hx hb dL_law_690 ?_
            refine lv_topi (fun x143 (e143 : x143 = i + 1) => ?_)
            try have t143 : x143.toInt = i.toInt + 1 := tadd e143 rfl kp1 (by omega)
            have hin : vp_in x143 Lx := tin rfl (by omega)
            refine va_sld hx hb hX hbl hbA hW.2.2.1 hin dL_law_691 ?_
            refine lv_as x139 (by rw [e139, e138, e143]) ?_
            refine lv_aload_n hx hb dL_law_692 rfl (lv_at hl 1 rfl) ?_
            refine lv_iload_n hx hb dL_law_693 rfl (lv_at hl 0 rfl) ?_
            refine lv_iconst (v := 2) hx hb dL_law_694 (by decide) ?_
            refine lv_iadd hx hb dL_law_695 ?_
            refine lv_topi (fun x144 (e144 : x144 = i + 2) => ?_)
            try have t144 : x144.toInt = i.toInt + 2 := tadd e144 rfl kp2 (by omega)
            have hin : vp_in x144 Lx := tin rfl (by omega)
            refine va_sld hx hb hX hbl hbA hW.2.2.1 hin dL_law_696 ?_
            refine lv_as x141 (by rw [e141, e140, e144]) ?_
            refine ci2_ C (WB_R hW) (runV (x := g.2.2.1 13) (As := [.int x139, .int x141]) (rest := []) (T := (((hv J [42] [] u142.1), L, (hv I [] [(6, 6), (6, 7)] u142.2), P, E, N), sgM g)) C (WB_R hW) (c_X12_heard_e l g (hv J [42] [] u142.1) L (hv I [] [(6, 6), (6, 7)] u142.2) P E N H.size x139 x141 hwm) mi_X12_heard tw_1402 (recv_ (T := (((hv J [42] [] u142.1), L, (hv I [] [(6, 6), (6, 7)] u142.2), P, E, N), sgM g)) C (WB_R hW) (mm_ rfl) rfl rfl) ⟨rfl, rfl, Nat.le_of_ble_eq_true rfl, Nat.le_of_ble_eq_true rfl⟩ rfl hl.1 rfl (Nat.le_of_ble_eq_true rfl) dL_law_697 ⟨by show 1000 + 10 * k + 0 + 0 ≤ 600000; omega, by show 200000 + 20100 * k + 0 + 0 ≤ 7302250; omega⟩) (fun r145 u145 H locs hp145 hB hk hS => ?_)
            have hW : WB g A s.heap H locs ((hv (hv J [42] [] u142.1) [100, 146] [] u145), L, (hv I [] [(6, 6), (6, 7)] u142.2), P, E, N) ((sgX g ++ dy) ++ sgM g) := joinR hW hB hk hS (frsub C (WB_R hW)) (fun x hx => cel_x (hv_x rfl rfl (notm hW x hx)))
            refine lv_pop hx hb dL_law_700 rfl ?_
            refine lv_goto (tgt := 1389) hx hb dL_law_701 (by decide) ?_
            obtain ⟨x146, e146⟩ : ∃ y : Int32, y = i + 5 := ⟨_, rfl⟩
            refine lv_iinc (v := x146) (lv' := [(3, .int x146), (0, .ref b), (1, .ref (g.2.2.1 12)), (2, .ref (g.2.2.1 13))]) hx hb dL_law_1389 hl (k := 0) rfl (by rw [e146]; rfl) (by decide) rfl (fun ls hl => ?_)
            try have t146 : x146.toInt = i.toInt + 5 := tadd e146 rfl kp5 (by omega)
            refine lv_goto (tgt := 18) hx hb dL_law_1392 (by decide) ?_
            refine W.widen (k := 1000 + 10 * (k + 1)) (n := 200000 + 20100 * (k + 1)) (by omega) (by omega) ?_
            exact ih (k + 1) x146 (hv (hv J [42] [] u142.1) [100, 146] [] u145) L (hv I [] [(6, 6), (6, 7)] u142.2) P E N dy H locs ls (by omega) (by omega) (by omega) hwf hwm hnow hrl hac hrel0 hrel1 hrel2 hrel3 hrel4 hrel5 hrel6 hrel7 hrel8 hrel9 hrel10 hrel11 hrel12 hrel13 hrel14 hrel15 hrel16 hrel17 hrel18 hrel19 hrel20 hrel21 hrel22 hrel23 hrel24 hrel25 hrel26 hrel27 hrel28 hrel29 hrel30 (tol_s (a := J 13 49) (k := k) hk64 (Or.inl rfl) hrel31) hrel32 hrel33 hrel34 hrel35 hrel36 hrel37 hrel38 hrel39 hrel40 hrel41 hrel42 hrel43 hrel44 hW (lv_sub hl [0, 1, 2, 3] rfl)
          · refine lv_tableIn (off := 672) (tgt := 704) hx hb dL_law_32 (Int.not_lt.mpr c6) (Int.not_lt.mpr c6b) (by rw [c6k]; rfl) (by decide) ?_
            refine lv_aload_n hx hb dL_law_704 rfl (lv_at hl 2 rfl) ?_
            refine lv_aload_n hx hb dL_law_705 rfl (lv_at hl 1 rfl) ?_
            refine lv_iload_n hx hb dL_law_706 rfl (lv_at hl 0 rfl) ?_
            refine lv_iconst (v := 1) hx hb dL_law_707 (by decide) ?_
            refine lv_iadd hx hb dL_law_708 ?_
            refine lv_topi (fun x147 (e147 : x147 = i + 1) => ?_)
            try have t147 : x147.toInt = i.toInt + 1 := tadd e147 rfl kp1 (by omega)
            have hin : vp_in x147 Lx := tin rfl (by omega)
            refine va_sld hx hb hX hbl hbA hW.2.2.1 hin dL_law_709 ?_
            refine lv_topi (fun x148 (e148 : x148 = xs x147.toNatClampNeg) => ?_)
            refine lv_aload_n hx hb dL_law_710 rfl (lv_at hl 1 rfl) ?_
            refine lv_iload_n hx hb dL_law_711 rfl (lv_at hl 0 rfl) ?_
            refine lv_iconst (v := 2) hx hb dL_law_712 (by decide) ?_
            refine lv_iadd hx hb dL_law_713 ?_
            refine lv_topi (fun x149 (e149 : x149 = i + 2) => ?_)
            try have t149 : x149.toInt = i.toInt + 2 := tadd e149 rfl kp2 (by omega)
            have hin : vp_in x149 Lx := tin rfl (by omega)
            refine va_sld hx hb hX hbl hbA hW.2.2.1 hin dL_law_714 ?_
            refine lv_topi (fun x150 (e150 : x150 = xs x149.toNatClampNeg) => ?_)
            refine lv_i2l (v := x150.toInt64) hx hb dL_law_715 rfl ?_
            refine lv_bipush (v := 32) hx hb dL_law_716 (by decide) ?_
            refine lv_lshl hx hb dL_law_718 rfl ?_
            refine lv_topl (fun z151 ez151 => ?_)
            refine lv_aload_n hx hb dL_law_719 rfl (lv_at hl 1 rfl) ?_
            refine lv_iload_n hx hb dL_law_720 rfl (lv_at hl 0 rfl) ?_
            refine lv_iconst (v := 3) hx hb dL_law_721 (by decide) ?_
            refine lv_iadd hx hb dL_law_722 ?_
            refine lv_topi (fun x152 (e152 : x152 = i + 3) => ?_)
            try have t152 : x152.toInt = i.toInt + 3 := tadd e152 rfl kp3 (by omega)
            have hin : vp_in x152 Lx := tin rfl (by omega)
            refine va_sld hx hb hX hbl hbA hW.2.2.1 hin dL_law_723 ?_
            refine lv_topi (fun x153 (e153 : x153 = xs x152.toNatClampNeg) => ?_)
            refine lv_i2l (v := x153.toInt64) hx hb dL_law_724 rfl ?_
            refine lv_ldc2 hx hb C.1.2.2.2.1 (hts _ tw_1548) dL_law_725 ?_
            refine lv_land hx hb dL_law_728 ?_
            refine lv_topl (fun z154 ez154 => ?_)
            refine lv_lor hx hb dL_law_729 ?_
            refine lv_topl (fun z155 ez155 => ?_)
            refine ci2_ C (WB_L hW) (runV (x := g.2.2.1 12) (As := [.int x148, .long z155]) (rest := []) (T := ((J, L, I, P, E, N), sgX g ++ dy)) C (WB_L hW) (c_X11_feed_e l g J L I P E N dy H.size x148 z155 hwf ⟨by omega, by omega⟩) mi_X11_feed tw_728 (recv_ (T := ((J, L, I, P, E, N), sgX g ++ dy)) C (WB_L hW) (mx_ rfl) rfl rfl) ⟨rfl, rfl, Nat.le_of_ble_eq_true rfl, Nat.le_of_ble_eq_true rfl⟩ rfl hl.1 rfl (Nat.le_of_ble_eq_true rfl) dL_law_730 ⟨by show 1000 + 10 * k + 0 ≤ 600000; omega, by show 200000 + 20100 * k + 0 ≤ 7302250; omega⟩) (fun r156 u156 H locs hp156 hB hk hS => ?_)
            have hW : WB g A s.heap H locs ((hv J [42, 43] [(11, 2)] u156), L, I, P, E, N) ((sgX g ++ dy) ++ sgM g) := joinL hW hB hk hS (frsub C (WB_L hW)) (okM hW (fun r h => hv_m (J := J) (R := [42, 43]) (F := [(11, 2)]) rfl rfl h) (fun r h => rfl))
            have hc156 : ((r156.toInt = (-4) ∧ (x148.toInt < 1) ∧ u156 11 2 = J 11 2 ∧ u156 43 = J 43) ∨ (r156.toInt = (-6) ∧ (1 ≤ x148.toInt ∧ (8 < x148.toInt ∨ 60 - (J 11 2).toInt < x148.toInt)) ∧ u156 11 2 = J 11 2 ∧ u156 43 = J 43) ∨ (r156.toInt = (J 11 2).toInt + x148.toInt ∧ (1 ≤ x148.toInt ∧ x148.toInt ≤ 8 ∧ (J 11 2).toInt + x148.toInt ≤ 60) ∧ (u156 11 2).toInt = (J 11 2).toInt + x148.toInt ∧ FEED (J 43) (u156 43) (BYC z155) (J 11 2).toInt x148.toInt)) := hp156
            refine lv_pop hx hb dL_law_733 rfl ?_
            refine lv_aload_n hx hb dL_law_734 rfl (lv_at hl 3 rfl) ?_
            refine lv_aload_n hx hb dL_law_735 rfl (lv_at hl 1 rfl) ?_
            refine lv_iload_n hx hb dL_law_736 rfl (lv_at hl 0 rfl) ?_
            refine lv_iconst (v := 1) hx hb dL_law_737 (by decide) ?_
            refine lv_iadd hx hb dL_law_738 ?_
            refine lv_topi (fun x157 (e157 : x157 = i + 1) => ?_)
            try have t157 : x157.toInt = i.toInt + 1 := tadd e157 rfl kp1 (by omega)
            have hin : vp_in x157 Lx := tin rfl (by omega)
            refine va_sld hx hb hX hbl hbA hW.2.2.1 hin dL_law_739 ?_
            refine lv_as x148 (by rw [e148, e147, e157]) ?_
            refine lv_aload_n hx hb dL_law_740 rfl (lv_at hl 1 rfl) ?_
            refine lv_iload_n hx hb dL_law_741 rfl (lv_at hl 0 rfl) ?_
            refine lv_iconst (v := 2) hx hb dL_law_742 (by decide) ?_
            refine lv_iadd hx hb dL_law_743 ?_
            refine lv_topi (fun x158 (e158 : x158 = i + 2) => ?_)
            try have t158 : x158.toInt = i.toInt + 2 := tadd e158 rfl kp2 (by omega)
            have hin : vp_in x158 Lx := tin rfl (by omega)
            refine va_sld hx hb hX hbl hbA hW.2.2.1 hin dL_law_744 ?_
            refine lv_as x150 (by rw [e150, e149, e158]) ?_
            refine lv_i2l (v := x150.toInt64) hx hb dL_law_745 rfl ?_
            refine lv_bipush (v := 32) hx hb dL_law_746 (by decide) ?_
            refine lv_lshl hx hb dL_law_748 rfl ?_
            refine lv_topl (fun z159 ez159 => ?_)
            refine lv_aload_n hx hb dL_law_749 rfl (lv_at hl 1 rfl) ?_
            refine lv_iload_n hx hb dL_law_750 rfl (lv_at hl 0 rfl) ?_
            refine lv_iconst (v := 3) hx hb dL_law_751 (by decide) ?_
            refine lv_iadd hx hb dL_law_752 ?_
            refine lv_topi (fun x160 (e160 : x160 = i + 3) => ?_)
            try have t160 : x160.toInt = i.toInt + 3 := tadd e160 rfl kp3 (by omega)
            have hin : vp_in x160 Lx := tin rfl (by omega)
            refine va_sld hx hb hX hbl hbA hW.2.2.1 hin dL_law_753 ?_
            refine lv_as x153 (by rw [e153, e152, e160]) ?_
            refine lv_i2l (v := x153.toInt64) hx hb dL_law_754 rfl ?_
            refine lv_ldc2 hx hb C.1.2.2.2.1 (hts _ tw_1548) dL_law_755 ?_
            refine lv_land hx hb dL_law_758 ?_
            refine lv_topl (fun z161 ez161 => ?_)
            refine lv_lor hx hb dL_law_759 ?_
            refine lv_topl (fun z162 ez162 => ?_)
            refine ci2_ C (WB_R hW) (runV (x := g.2.2.1 13) (As := [.int x148, .long z162]) (rest := []) (T := (((hv J [42, 43] [(11, 2)] u156), L, I, P, E, N), sgM g)) C (WB_R hW) (c_X12_feed_e l g (hv J [42, 43] [(11, 2)] u156) L I P E N H.size x148 z162 hwm) mi_X12_feed tw_1410 (recv_ (T := (((hv J [42, 43] [(11, 2)] u156), L, I, P, E, N), sgM g)) C (WB_R hW) (mm_ rfl) rfl rfl) ⟨rfl, rfl, Nat.le_of_ble_eq_true rfl, Nat.le_of_ble_eq_true rfl⟩ rfl hl.1 rfl (Nat.le_of_ble_eq_true rfl) dL_law_760 ⟨by show 1000 + 10 * k + 0 + 0 ≤ 600000; omega, by show 200000 + 20100 * k + 0 + 0 ≤ 7302250; omega⟩) (fun r163 u163 H locs hp163 hB hk hS => ?_)
            have hW : WB g A s.heap H locs ((hv (hv J [42, 43] [(11, 2)] u156) [100, 153] [(13, 55)] u163), L, I, P, E, N) ((sgX g ++ dy) ++ sgM g) := joinR hW hB hk hS (frsub C (WB_R hW)) (fun x hx => cel_x (hv_x rfl rfl (notm hW x hx)))
            obtain ⟨hwm, hc163⟩ : WM (hv (hv J [42, 43] [(11, 2)] u156) [100, 153] [(13, 55)] u163) ∧ ((r163.toInt = (-4) ∧ (x148.toInt < 1) ∧ u163 13 55 = J 13 55 ∧ u163 153 = J 153) ∨ (r163.toInt = (-6) ∧ (1 ≤ x148.toInt ∧ (8 < x148.toInt ∨ 60 - (J 13 55).toInt < x148.toInt)) ∧ u163 13 55 = J 13 55 ∧ u163 153 = J 153) ∨ (r163.toInt = (J 13 55).toInt + x148.toInt ∧ (1 ≤ x148.toInt ∧ x148.toInt ≤ 8 ∧ (J 13 55).toInt + x148.toInt ≤ 60) ∧ (u163 13 55).toInt = (J 13 55).toInt + x148.toInt ∧ FEED (J 153) (u163 153) (BYM z162) (J 13 55).toInt x148.toInt)) := hp163
            have hzz : z155 = z162 := by simp only [ez162, ez161, ez159, ez155, ez154, ez151]
            refine lv_pop hx hb dL_law_763 rfl ?_
            refine lv_goto (tgt := 1389) hx hb dL_law_764 (by decide) ?_
            obtain ⟨x164, e164⟩ : ∃ y : Int32, y = i + 5 := ⟨_, rfl⟩
            refine lv_iinc (v := x164) (lv' := [(3, .int x164), (0, .ref b), (1, .ref (g.2.2.1 12)), (2, .ref (g.2.2.1 13))]) hx hb dL_law_1389 hl (k := 0) rfl (by rw [e164]; rfl) (by decide) rfl (fun ls hl => ?_)
            try have t164 : x164.toInt = i.toInt + 5 := tadd e164 rfl kp5 (by omega)
            refine lv_goto (tgt := 18) hx hb dL_law_1392 (by decide) ?_
            refine W.widen (k := 1000 + 10 * (k + 1)) (n := 200000 + 20100 * (k + 1)) (by omega) (by omega) ?_
            obtain ⟨hnew13, hnew14⟩ := rel_feed k g J I P E N dy r156 x148 u156 z155 r163 u163 z162 hk64 hwf0 hwm0 hnow0 hrl0 hac0 hrel0 hrel1 hrel2 hrel3 hrel4 hrel5 hrel6 hrel7 hrel8 hrel9 hrel10 hrel11 hrel12 hrel13 hrel14 hrel15 hrel16 hrel17 hrel18 hrel19 hrel20 hrel21 hrel22 hrel23 hrel24 hrel25 hrel26 hrel27 hrel28 hrel29 hrel30 hrel31 hrel32 hrel33 hrel34 hrel35 hrel36 hrel37 hrel38 hrel39 hrel40 hrel41 hrel42 hrel43 hrel44 hc156 hc163 hzz
            exact ih (k + 1) x164 (hv (hv J [42, 43] [(11, 2)] u156) [100, 153] [(13, 55)] u163) L I P E N dy H locs ls (by omega) (by omega) (by omega) hwf hwm hnow hrl hac hrel0 hrel1 hrel2 hrel3 hrel4 hrel5 hrel6 hrel7 hrel8 hrel9 hrel10 hrel11 hrel12 hnew13 hnew14 hrel15 hrel16 hrel17 hrel18 hrel19 hrel20 hrel21 hrel22 hrel23 hrel24 hrel25 hrel26 hrel27 hrel28 hrel29 hrel30 (tol_s (a := J 13 49) (k := k) hk64 (Or.inl rfl) hrel31) hrel32 hrel33 hrel34 hrel35 hrel36 hrel37 hrel38 hrel39 hrel40 hrel41 hrel42 hrel43 hrel44 hW (lv_sub hl [0, 1, 2, 3] rfl)
          · refine lv_tableIn (off := 735) (tgt := 767) hx hb dL_law_32 (Int.not_lt.mpr c6) (Int.not_lt.mpr c6b) (by rw [c6k]; rfl) (by decide) ?_
            refine lv_aload_n hx hb dL_law_767 rfl (lv_at hl 2 rfl) ?_
            refine lv_aload_n hx hb dL_law_768 rfl (lv_at hl 1 rfl) ?_
            refine lv_iload_n hx hb dL_law_769 rfl (lv_at hl 0 rfl) ?_
            refine lv_iconst (v := 1) hx hb dL_law_770 (by decide) ?_
            refine lv_iadd hx hb dL_law_771 ?_
            refine lv_topi (fun x165 (e165 : x165 = i + 1) => ?_)
            try have t165 : x165.toInt = i.toInt + 1 := tadd e165 rfl kp1 (by omega)
            have hin : vp_in x165 Lx := tin rfl (by omega)
            refine va_sld hx hb hX hbl hbA hW.2.2.1 hin dL_law_772 ?_
            refine lv_topi (fun x166 (e166 : x166 = xs x165.toNatClampNeg) => ?_)
            refine lv_aload_n hx hb dL_law_773 rfl (lv_at hl 1 rfl) ?_
            refine lv_iload_n hx hb dL_law_774 rfl (lv_at hl 0 rfl) ?_
            refine lv_iconst (v := 2) hx hb dL_law_775 (by decide) ?_
            refine lv_iadd hx hb dL_law_776 ?_
            refine lv_topi (fun x167 (e167 : x167 = i + 2) => ?_)
            try have t167 : x167.toInt = i.toInt + 2 := tadd e167 rfl kp2 (by omega)
            have hin : vp_in x167 Lx := tin rfl (by omega)
            refine va_sld hx hb hX hbl hbA hW.2.2.1 hin dL_law_777 ?_
            refine lv_topi (fun x168 (e168 : x168 = xs x167.toNatClampNeg) => ?_)
            refine ci2_ C (WB_L hW) (runV (x := g.2.2.1 12) (As := [.int x166, .int x168]) (rest := []) (T := ((J, L, I, P, E, N), sgX g ++ dy)) C (WB_L hW) (c_X11_term_a l g J L I P E N dy H.size x166 x168 hwf ⟨by omega, by omega⟩) mi_X11_term tw_736 (recv_ (T := ((J, L, I, P, E, N), sgX g ++ dy)) C (WB_L hW) (mx_ rfl) rfl rfl) ⟨rfl, rfl, Nat.le_of_ble_eq_true rfl, Nat.le_of_ble_eq_true rfl⟩ rfl hl.1 rfl (Nat.le_of_ble_eq_true rfl) dL_law_778 ⟨by show 1000 + 10 * k + 10 ≤ 600000; omega, by show 200000 + 20100 * k + 20100 ≤ 7302250; omega⟩) (fun r169 u169 H locs hp169 hB hk hS => ?_)
            have hW : WB g A s.heap H locs ((hv J [42, 44] [(11, 2), (11, 3), (11, 4), (25, 0), (25, 2)] u169.1), L, (hv I [10, 46] [] u169.2.1), (hv P [10, 35, 46] [] u169.2.2.1), (hv1 E [25] u169.2.2.2.1), u169.2.2.2.2.1) ((sgX g ++ u169.2.2.2.2.2) ++ sgM g) := joinL hW hB hk hS (frsub C (WB_L hW)) (okM hW (fun r h => hv_m (J := J) (R := [42, 44]) (F := [(11, 2), (11, 3), (11, 4), (25, 0), (25, 2)]) rfl rfl h) (fun r h => rfl))
            obtain ⟨hc169, hwf, hdd169, hf169_0⟩ := hp169
            refine lv_pop hx hb dL_law_781 rfl ?_
            refine lv_aload_n hx hb dL_law_782 rfl (lv_at hl 3 rfl) ?_
            refine lv_aload_n hx hb dL_law_783 rfl (lv_at hl 1 rfl) ?_
            refine lv_iload_n hx hb dL_law_784 rfl (lv_at hl 0 rfl) ?_
            refine lv_iconst (v := 1) hx hb dL_law_785 (by decide) ?_
            refine lv_iadd hx hb dL_law_786 ?_
            refine lv_topi (fun x170 (e170 : x170 = i + 1) => ?_)
            try have t170 : x170.toInt = i.toInt + 1 := tadd e170 rfl kp1 (by omega)
            have hin : vp_in x170 Lx := tin rfl (by omega)
            refine va_sld hx hb hX hbl hbA hW.2.2.1 hin dL_law_787 ?_
            refine lv_as x166 (by rw [e166, e165, e170]) ?_
            refine lv_aload_n hx hb dL_law_788 rfl (lv_at hl 1 rfl) ?_
            refine lv_iload_n hx hb dL_law_789 rfl (lv_at hl 0 rfl) ?_
            refine lv_iconst (v := 2) hx hb dL_law_790 (by decide) ?_
            refine lv_iadd hx hb dL_law_791 ?_
            refine lv_topi (fun x171 (e171 : x171 = i + 2) => ?_)
            try have t171 : x171.toInt = i.toInt + 2 := tadd e171 rfl kp2 (by omega)
            have hin : vp_in x171 Lx := tin rfl (by omega)
            refine va_sld hx hb hX hbl hbA hW.2.2.1 hin dL_law_792 ?_
            refine lv_as x168 (by rw [e168, e167, e171]) ?_
            refine ci2_ C (WB_R hW) (runV (x := g.2.2.1 13) (As := [.int x166, .int x168]) (rest := []) (T := (((hv J [42, 44] [(11, 2), (11, 3), (11, 4), (25, 0), (25, 2)] u169.1), L, (hv I [10, 46] [] u169.2.1), (hv P [10, 35, 46] [] u169.2.2.1), (hv1 E [25] u169.2.2.2.1), u169.2.2.2.2.1), sgM g)) C (WB_R hW) (c_X12_term__e l g (hv J [42, 44] [(11, 2), (11, 3), (11, 4), (25, 0), (25, 2)] u169.1) L (hv I [10, 46] [] u169.2.1) (hv P [10, 35, 46] [] u169.2.2.1) (hv1 E [25] u169.2.2.2.1) u169.2.2.2.2.1 H.size x166 x168 hwm) mi_X12_term_ tw_1415 (recv_ (T := (((hv J [42, 44] [(11, 2), (11, 3), (11, 4), (25, 0), (25, 2)] u169.1), L, (hv I [10, 46] [] u169.2.1), (hv P [10, 35, 46] [] u169.2.2.1), (hv1 E [25] u169.2.2.2.1), u169.2.2.2.2.1), sgM g)) C (WB_R hW) (mm_ rfl) rfl rfl) ⟨rfl, rfl, Nat.le_of_ble_eq_true rfl, Nat.le_of_ble_eq_true rfl⟩ rfl hl.1 rfl (Nat.le_of_ble_eq_true rfl) dL_law_793 ⟨by show 1000 + 10 * k + 10 + 0 ≤ 600000; omega, by show 200000 + 20100 * k + 20100 + 0 ≤ 7302250; omega⟩) (fun r172 u172 H locs hp172 hB hk hS => ?_)
            have hW : WB g A s.heap H locs ((hv (hv J [42, 44] [(11, 2), (11, 3), (11, 4), (25, 0), (25, 2)] u169.1) [100, 121, 122, 123, 124] [(13, 40), (13, 55), (13, 56), (13, 57), (13, 58), (13, 59), (13, 60)] u172), L, (hv I [10, 46] [] u169.2.1), (hv P [10, 35, 46] [] u169.2.2.1), (hv1 E [25] u169.2.2.2.1), u169.2.2.2.2.1) ((sgX g ++ u169.2.2.2.2.2) ++ sgM g) := joinR hW hB hk hS (frsub C (WB_R hW)) (fun x hx => cel_x (hv_x rfl rfl (notm hW x hx)))
            obtain ⟨hwm, hc172⟩ : WM (hv (hv J [42, 44] [(11, 2), (11, 3), (11, 4), (25, 0), (25, 2)] u169.1) [100, 121, 122, 123, 124] [(13, 40), (13, 55), (13, 56), (13, 57), (13, 58), (13, 59), (13, 60)] u172) ∧ ((r172.toInt = (-2) ∧ (¬ (0 ≤ x166.toInt ∧ x166.toInt ≤ 3)) ∧ u172 13 40 = J 13 40 ∧ u172 121 = J 121 ∧ u172 122 = J 122 ∧ u172 123 = J 123 ∧ u172 124 = J 124 ∧ u172 13 55 = J 13 55) ∨ (r172.toInt = (-4) ∧ (0 ≤ x166.toInt ∧ x166.toInt ≤ 3 ∧ x168.toInt < (J 13 31).toInt) ∧ u172 13 40 = J 13 40 ∧ u172 121 = J 121 ∧ u172 122 = J 122 ∧ u172 123 = J 123 ∧ u172 124 = J 124 ∧ u172 13 55 = J 13 55) ∨ (r172.toInt = (-6) ∧ (0 ≤ x166.toInt ∧ x166.toInt ≤ 3 ∧ (J 13 31).toInt ≤ x168.toInt ∧ (9999 < x168.toInt ∨ (J 13 40).toInt = 30)) ∧ u172 13 40 = J 13 40 ∧ u172 121 = J 121 ∧ u172 122 = J 122 ∧ u172 123 = J 123 ∧ u172 124 = J 124 ∧ u172 13 55 = J 13 55) ∨ (r172 = r172 ∧ (0 ≤ x166.toInt ∧ x166.toInt ≤ 3 ∧ (J 13 31).toInt ≤ x168.toInt ∧ x168.toInt ≤ 9999 ∧ (J 13 40).toInt ≤ 29) ∧ (∃ q : Nat, r172.toInt = -20 - (q : Int) ∧ (PF (NX (J 153) (J 13 55)) 0 5 0 q ∨ ((∃ c, PT (NX (J 153) (J 13 55)) 0 5 0 q c) ∧ ¬ (q : Int) = (J 13 55).toInt))) ∧ (u172 13 55).toInt = 0 ∧ u172 13 40 = J 13 40 ∧ u172 121 = J 121 ∧ u172 122 = J 122 ∧ u172 123 = J 123 ∧ u172 124 = J 124) ∨ (r172.toInt = (J 13 40).toInt + 1 ∧ (0 ≤ x166.toInt ∧ x166.toInt ≤ 3 ∧ (J 13 31).toInt ≤ x168.toInt ∧ x168.toInt ≤ 9999 ∧ (J 13 40).toInt ≤ 29) ∧ (u172 13 40).toInt = (J 13 40).toInt + 1 ∧ (u172 13 55).toInt = 0 ∧ (∃ (q : Nat) (c : List Int), PT (NX (J 153) (J 13 55)) 0 5 0 q c ∧ (q : Int) = (J 13 55).toInt) ∧ u172 121 = up2 J 121 (J 13 40).toNatClampNeg (J 13 55) 121 ∧ u172 122 = up2 J 122 (J 13 40).toNatClampNeg x166 122 ∧ u172 123 = up2 J 123 (J 13 40).toNatClampNeg x168 123 ∧ TXC (J 124) (u172 124) (J 153) (60 * (J 13 40).toInt) (J 13 55).toInt)) := hp172
            refine lv_pop hx hb dL_law_796 rfl ?_
            refine lv_goto (tgt := 1389) hx hb dL_law_797 (by decide) ?_
            obtain ⟨x173, e173⟩ : ∃ y : Int32, y = i + 5 := ⟨_, rfl⟩
            refine lv_iinc (v := x173) (lv' := [(3, .int x173), (0, .ref b), (1, .ref (g.2.2.1 12)), (2, .ref (g.2.2.1 13))]) hx hb dL_law_1389 hl (k := 0) rfl (by rw [e173]; rfl) (by decide) rfl (fun ls hl => ?_)
            try have t173 : x173.toInt = i.toInt + 5 := tadd e173 rfl kp5 (by omega)
            refine lv_goto (tgt := 18) hx hb dL_law_1392 (by decide) ?_
            refine W.widen (k := 1000 + 10 * (k + 1)) (n := 200000 + 20100 * (k + 1)) (by omega) (by omega) ?_
            obtain ⟨hnew13, hnew14, hnew15, hnew16, hnew33⟩ := rel_term k g J I P E N dy r169 x166 u169 x168 r172 u172 hk64 hwf0 hwm0 hnow0 hrl0 hac0 hrel0 hrel1 hrel2 hrel3 hrel4 hrel5 hrel6 hrel7 hrel8 hrel9 hrel10 hrel11 hrel12 hrel13 hrel14 hrel15 hrel16 hrel17 hrel18 hrel19 hrel20 hrel21 hrel22 hrel23 hrel24 hrel25 hrel26 hrel27 hrel28 hrel29 hrel30 hrel31 hrel32 hrel33 hrel34 hrel35 hrel36 hrel37 hrel38 hrel39 hrel40 hrel41 hrel42 hrel43 hrel44 hc169 hf169_0 hc172
            exact ih (k + 1) x173 (hv (hv J [42, 44] [(11, 2), (11, 3), (11, 4), (25, 0), (25, 2)] u169.1) [100, 121, 122, 123, 124] [(13, 40), (13, 55), (13, 56), (13, 57), (13, 58), (13, 59), (13, 60)] u172) L (hv I [10, 46] [] u169.2.1) (hv P [10, 35, 46] [] u169.2.2.1) (hv1 E [25] u169.2.2.2.1) u169.2.2.2.2.1 u169.2.2.2.2.2 H locs ls (by omega) (by omega) (by omega) hwf hwm hnow hrl hac hrel0 hrel1 hrel2 hrel3 hrel4 hrel5 hrel6 hrel7 hrel8 hrel9 hrel10 hrel11 hrel12 hnew13 hnew14 hnew15 hnew16 hrel17 hrel18 hrel19 hrel20 hrel21 hrel22 hrel23 hrel24 hrel25 hrel26 hrel27 hrel28 hrel29 hrel30 (tol_s (a := J 13 49) (k := k) hk64 (Or.inl rfl) hrel31) hrel32 hnew33 hrel34 hrel35 hrel36 hrel37 hrel38 hrel39 hrel40 hrel41 hrel42 hrel43 hrel44 hW (lv_sub hl [0, 1, 2, 3] rfl)
          · refine lv_tableIn (off := 768) (tgt := 800) hx hb dL_law_32 (Int.not_lt.mpr c6) (Int.not_lt.mpr c6b) (by rw [c6k]; rfl) (by decide) ?_
            refine lv_aload_n hx hb dL_law_800 rfl (lv_at hl 2 rfl) ?_
            refine lv_aload_n hx hb dL_law_801 rfl (lv_at hl 1 rfl) ?_
            refine lv_iload_n hx hb dL_law_802 rfl (lv_at hl 0 rfl) ?_
            refine lv_iconst (v := 1) hx hb dL_law_803 (by decide) ?_
            refine lv_iadd hx hb dL_law_804 ?_
            refine lv_topi (fun x174 (e174 : x174 = i + 1) => ?_)
            try have t174 : x174.toInt = i.toInt + 1 := tadd e174 rfl kp1 (by omega)
            have hin : vp_in x174 Lx := tin rfl (by omega)
            refine va_sld hx hb hX hbl hbA hW.2.2.1 hin dL_law_805 ?_
            refine lv_topi (fun x175 (e175 : x175 = xs x174.toNatClampNeg) => ?_)
            refine lv_aload_n hx hb dL_law_806 rfl (lv_at hl 1 rfl) ?_
            refine lv_iload_n hx hb dL_law_807 rfl (lv_at hl 0 rfl) ?_
            refine lv_iconst (v := 2) hx hb dL_law_808 (by decide) ?_
            refine lv_iadd hx hb dL_law_809 ?_
            refine lv_topi (fun x176 (e176 : x176 = i + 2) => ?_)
            try have t176 : x176.toInt = i.toInt + 2 := tadd e176 rfl kp2 (by omega)
            have hin : vp_in x176 Lx := tin rfl (by omega)
            refine va_sld hx hb hX hbl hbA hW.2.2.1 hin dL_law_810 ?_
            refine lv_topi (fun x177 (e177 : x177 = xs x176.toNatClampNeg) => ?_)
            refine ci2_ C (WB_L hW) (runV (x := g.2.2.1 12) (As := [.int x175, .int x177]) (rest := []) (T := ((J, L, I, P, E, N), sgX g ++ dy)) C (WB_L hW) (c_X11_worth_e l g J L I P E N dy H.size x175 x177 hwf hrel21 hrel20 hrel27 hrel28 hrel9 (tmr_cdb hrel16) ⟨hnow.1, hnow.2.1⟩) mi_X11_worth tw_821 (recv_ (T := ((J, L, I, P, E, N), sgX g ++ dy)) C (WB_L hW) (mx_ rfl) rfl rfl) ⟨rfl, rfl, Nat.le_of_ble_eq_true rfl, Nat.le_of_ble_eq_true rfl⟩ rfl hl.1 rfl (Nat.le_of_ble_eq_true rfl) dL_law_811 ⟨by show 1000 + 10 * k + 0 ≤ 600000; omega, by show 200000 + 20100 * k + 0 ≤ 7302250; omega⟩) (fun r178 u178 H locs hp178 hB hk hS => ?_)
            have hW : WB g A s.heap H locs ((hv J [42, 45] [(4, 6), (4, 7), (8, 1), (8, 2), (8, 3), (8, 4), (8, 5), (8, 6), (8, 7), (8, 8), (8, 9)] u178.1), L, (hv I [] [(6, 6), (6, 7)] u178.2), P, E, N) ((sgX g ++ dy) ++ sgM g) := joinL hW hB hk hS (frsub C (WB_L hW)) (okM hW (fun r h => hv_m (J := J) (R := [42, 45]) (F := [(4, 6), (4, 7), (8, 1), (8, 2), (8, 3), (8, 4), (8, 5), (8, 6), (8, 7), (8, 8), (8, 9)]) rfl rfl h) (fun r h => rfl))
            have hc178 : ((r178.toInt = 1000000001 ∧ (¬ (0 ≤ x177.toInt ∧ x177.toInt < (J 3 1).toInt))) ∨ (r178.toInt = 1000000002 ∧ ((0 ≤ x177.toInt ∧ x177.toInt < (J 3 1).toInt) ∧ (x175.toInt < 0 ∨ 2 < x175.toInt))) ∨ (r178 = r178 ∧ ((0 ≤ x177.toInt ∧ x177.toInt < (J 3 1).toInt) ∧ 0 ≤ x175.toInt ∧ x175.toInt ≤ 2) ∧ WIF I P E N (J 25 2).toInt x175.toInt x177.toInt (fun s m9 => SCL (J 116 x177.toNatClampNeg) (hrw x177.toInt) (J 118 x177.toNatClampNeg) s m9 (J 120 x177.toNatClampNeg) (J 3 1 - x177) (J 22 2)) (TLY (fun x => SND x (J 101) (fun k => I 6 1 (elt E P 20 k)) (fun k => I 6 3 (elt E P 20 k)) (fun k => I 6 5 (elt E P 20 k)) (CUTP (J 105) (J 106) (J 107) (J 21 2).toInt x177.toInt) (J 118 x177.toNatClampNeg) (J 120 x177.toNatClampNeg) (J 20 2).toInt) (J 116 x177.toNatClampNeg) (fun x => HF (J 116 x177.toNatClampNeg) (J 110) (J 111) x177.toInt (J 4 5) (J 109) (J 108) x) (J 22 2).toInt.toNat) r178)) := hp178
            refine lv_pop hx hb dL_law_814 rfl ?_
            refine lv_aload_n hx hb dL_law_815 rfl (lv_at hl 3 rfl) ?_
            refine lv_aload_n hx hb dL_law_816 rfl (lv_at hl 1 rfl) ?_
            refine lv_iload_n hx hb dL_law_817 rfl (lv_at hl 0 rfl) ?_
            refine lv_iconst (v := 1) hx hb dL_law_818 (by decide) ?_
            refine lv_iadd hx hb dL_law_819 ?_
            refine lv_topi (fun x179 (e179 : x179 = i + 1) => ?_)
            try have t179 : x179.toInt = i.toInt + 1 := tadd e179 rfl kp1 (by omega)
            have hin : vp_in x179 Lx := tin rfl (by omega)
            refine va_sld hx hb hX hbl hbA hW.2.2.1 hin dL_law_820 ?_
            refine lv_as x175 (by rw [e175, e174, e179]) ?_
            refine lv_aload_n hx hb dL_law_821 rfl (lv_at hl 1 rfl) ?_
            refine lv_iload_n hx hb dL_law_822 rfl (lv_at hl 0 rfl) ?_
            refine lv_iconst (v := 2) hx hb dL_law_823 (by decide) ?_
            refine lv_iadd hx hb dL_law_824 ?_
            refine lv_topi (fun x180 (e180 : x180 = i + 2) => ?_)
            try have t180 : x180.toInt = i.toInt + 2 := tadd e180 rfl kp2 (by omega)
            have hin : vp_in x180 Lx := tin rfl (by omega)
            refine va_sld hx hb hX hbl hbA hW.2.2.1 hin dL_law_825 ?_
            refine lv_as x177 (by rw [e177, e176, e180]) ?_
            refine ci2_ C (WB_R hW) (runV (x := g.2.2.1 13) (As := [.int x175, .int x177]) (rest := []) (T := (((hv J [42, 45] [(4, 6), (4, 7), (8, 1), (8, 2), (8, 3), (8, 4), (8, 5), (8, 6), (8, 7), (8, 8), (8, 9)] u178.1), L, (hv I [] [(6, 6), (6, 7)] u178.2), P, E, N), sgM g)) C (WB_R hW) (c_X12_worth__e l g (hv J [42, 45] [(4, 6), (4, 7), (8, 1), (8, 2), (8, 3), (8, 4), (8, 5), (8, 6), (8, 7), (8, 8), (8, 9)] u178.1) L (hv I [] [(6, 6), (6, 7)] u178.2) P E N H.size x175 x177 hwm hrel32) mi_X12_worth_ tw_1419 (recv_ (T := (((hv J [42, 45] [(4, 6), (4, 7), (8, 1), (8, 2), (8, 3), (8, 4), (8, 5), (8, 6), (8, 7), (8, 8), (8, 9)] u178.1), L, (hv I [] [(6, 6), (6, 7)] u178.2), P, E, N), sgM g)) C (WB_R hW) (mm_ rfl) rfl rfl) ⟨rfl, rfl, Nat.le_of_ble_eq_true rfl, Nat.le_of_ble_eq_true rfl⟩ rfl hl.1 rfl (Nat.le_of_ble_eq_true rfl) dL_law_826 ⟨by show 1000 + 10 * k + 0 + 0 ≤ 600000; omega, by show 200000 + 20100 * k + 0 + 0 ≤ 7302250; omega⟩) (fun r181 u181 H locs hp181 hB hk hS => ?_)
            have hW : WB g A s.heap H locs ((hv (hv J [42, 45] [(4, 6), (4, 7), (8, 1), (8, 2), (8, 3), (8, 4), (8, 5), (8, 6), (8, 7), (8, 8), (8, 9)] u178.1) [100, 146, 150, 151, 152, 154] [(13, 47), (13, 48), (13, 56), (13, 57), (13, 58), (13, 59), (13, 60)] u181), L, (hv I [] [(6, 6), (6, 7)] u178.2), P, E, N) ((sgX g ++ dy) ++ sgM g) := joinR hW hB hk hS (frsub C (WB_R hW)) (fun x hx => cel_x (hv_x rfl rfl (notm hW x hx)))
            obtain ⟨hc181, hf181_0⟩ : ((r181.toInt = 1000000001 ∧ (¬ (0 ≤ x177.toInt ∧ x177.toInt < (J 13 31).toInt))) ∨ (r181.toInt = 1000000002 ∧ ((0 ≤ x177.toInt ∧ x177.toInt < (J 13 31).toInt) ∧ (x175.toInt < 0 ∨ 2 < x175.toInt))) ∨ (r181 = r181 ∧ ((0 ≤ x177.toInt ∧ x177.toInt < (J 13 31).toInt) ∧ 0 ≤ x175.toInt ∧ x175.toInt ≤ 2) ∧ (∃ s o d : Int32, ((J 116 x177.toNatClampNeg).toInt = 6 → s.toInt = 0 ∧ o.toInt = 0) ∧ (¬ (J 116 x177.toNatClampNeg).toInt = 6 → CAV (hv J [42, 45] [(4, 6), (4, 7), (8, 1), (8, 2), (8, 3), (8, 4), (8, 5), (8, 6), (8, 7), (8, 8), (8, 9)] u178.1) x177.toNatClampNeg s.toInt o.toInt) ∧ ((¬ (x175.toInt : Int) = 2 → d.toInt = 0) ∧ ((x175.toInt : Int) = 2 → d = o)) ∧ WVM (J 121) (J 122) (J 123) (J 124) (SCL (J 116 x177.toNatClampNeg) (hrw x177.toInt) (J 118 x177.toNatClampNeg) s o (J 120 x177.toNatClampNeg) (J 13 31 - x177) (J 13 35)) (J 13 40).toInt x175.toInt x177.toInt d r181))) ∧ (CAC (hv (hv J [42, 45] [(4, 6), (4, 7), (8, 1), (8, 2), (8, 3), (8, 4), (8, 5), (8, 6), (8, 7), (8, 8), (8, 9)] u178.1) [100, 146, 150, 151, 152, 154] [(13, 47), (13, 48), (13, 56), (13, 57), (13, 58), (13, 59), (13, 60)] u181)) := hp181
            refine lv_pop hx hb dL_law_829 rfl ?_
            refine lv_goto (tgt := 1389) hx hb dL_law_830 (by decide) ?_
            obtain ⟨x182, e182⟩ : ∃ y : Int32, y = i + 5 := ⟨_, rfl⟩
            refine lv_iinc (v := x182) (lv' := [(3, .int x182), (0, .ref b), (1, .ref (g.2.2.1 12)), (2, .ref (g.2.2.1 13))]) hx hb dL_law_1389 hl (k := 0) rfl (by rw [e182]; rfl) (by decide) rfl (fun ls hl => ?_)
            try have t182 : x182.toInt = i.toInt + 5 := tadd e182 rfl kp5 (by omega)
            refine lv_goto (tgt := 18) hx hb dL_law_1392 (by decide) ?_
            refine W.widen (k := 1000 + 10 * (k + 1)) (n := 200000 + 20100 * (k + 1)) (by omega) (by omega) ?_
            obtain hnew32 := rel_worth k g J I P E N dy r178 x177 x175 r181 u178 u181 hk64 hwf0 hwm0 hnow0 hrl0 hac0 hrel0 hrel1 hrel2 hrel3 hrel4 hrel5 hrel6 hrel7 hrel8 hrel9 hrel10 hrel11 hrel12 hrel13 hrel14 hrel15 hrel16 hrel17 hrel18 hrel19 hrel20 hrel21 hrel22 hrel23 hrel24 hrel25 hrel26 hrel27 hrel28 hrel29 hrel30 hrel31 hrel32 hrel33 hrel34 hrel35 hrel36 hrel37 hrel38 hrel39 hrel40 hrel41 hrel42 hrel43 hrel44 hc178 hc181 hf181_0
            exact ih (k + 1) x182 (hv (hv J [42, 45] [(4, 6), (4, 7), (8, 1), (8, 2), (8, 3), (8, 4), (8, 5), (8, 6), (8, 7), (8, 8), (8, 9)] u178.1) [100, 146, 150, 151, 152, 154] [(13, 47), (13, 48), (13, 56), (13, 57), (13, 58), (13, 59), (13, 60)] u181) L (hv I [] [(6, 6), (6, 7)] u178.2) P E N dy H locs ls (by omega) (by omega) (by omega) hwf hwm hnow hrl hac hrel0 hrel1 hrel2 hrel3 hrel4 hrel5 hrel6 hrel7 hrel8 hrel9 hrel10 hrel11 hrel12 hrel13 hrel14 hrel15 hrel16 hrel17 hrel18 hrel19 hrel20 hrel21 hrel22 hrel23 hrel24 hrel25 hrel26 hrel27 hrel28 hrel29 hrel30 (tol_s (a := J 13 49) (k := k) hk64 (Or.inl rfl) hrel31) hnew32 hrel33 hrel34 hrel35 hrel36 hrel37 hrel38 hrel39 hrel40 hrel41 hrel42 hrel43 hrel44 hW (lv_sub hl [0, 1, 2, 3] rfl)
          · refine lv_tableIn (off := 801) (tgt := 833) hx hb dL_law_32 (Int.not_lt.mpr c6) (Int.not_lt.mpr c6b) (by rw [c6k]; rfl) (by decide) ?_
            refine lv_aload_n hx hb dL_law_833 rfl (lv_at hl 2 rfl) ?_
            refine lv_aload_n hx hb dL_law_834 rfl (lv_at hl 1 rfl) ?_
            refine lv_iload_n hx hb dL_law_835 rfl (lv_at hl 0 rfl) ?_
            refine lv_iconst (v := 1) hx hb dL_law_836 (by decide) ?_
            refine lv_iadd hx hb dL_law_837 ?_
            refine lv_topi (fun x183 (e183 : x183 = i + 1) => ?_)
            try have t183 : x183.toInt = i.toInt + 1 := tadd e183 rfl kp1 (by omega)
            have hin : vp_in x183 Lx := tin rfl (by omega)
            refine va_sld hx hb hX hbl hbA hW.2.2.1 hin dL_law_838 ?_
            refine lv_topi (fun x184 (e184 : x184 = xs x183.toNatClampNeg) => ?_)
            refine lv_aload_n hx hb dL_law_839 rfl (lv_at hl 1 rfl) ?_
            refine lv_iload_n hx hb dL_law_840 rfl (lv_at hl 0 rfl) ?_
            refine lv_iconst (v := 2) hx hb dL_law_841 (by decide) ?_
            refine lv_iadd hx hb dL_law_842 ?_
            refine lv_topi (fun x185 (e185 : x185 = i + 2) => ?_)
            try have t185 : x185.toInt = i.toInt + 2 := tadd e185 rfl kp2 (by omega)
            have hin : vp_in x185 Lx := tin rfl (by omega)
            refine va_sld hx hb hX hbl hbA hW.2.2.1 hin dL_law_843 ?_
            refine lv_topi (fun x186 (e186 : x186 = xs x185.toNatClampNeg) => ?_)
            refine cl2_ C (WB_L hW) (runV (x := g.2.2.1 12) (As := [.int x184, .int x186]) (rest := []) (T := ((J, L, I, P, E, N), sgX g ++ dy)) C (WB_L hW) (c_X11_account l g J L I P E N dy H.size x184 x186 hwf) mi_X11_account tw_834 (recv_ (T := ((J, L, I, P, E, N), sgX g ++ dy)) C (WB_L hW) (mx_ rfl) rfl rfl) ⟨rfl, rfl, Nat.le_of_ble_eq_true rfl, Nat.le_of_ble_eq_true rfl⟩ rfl hl.1 rfl (Nat.le_of_ble_eq_true rfl) dL_law_844 ⟨by show 1000 + 10 * k + 0 ≤ 600000; omega, by show 200000 + 20100 * k + 0 ≤ 7302250; omega⟩) (fun z187 u187 H locs hp187 hB hk hS => ?_)
            have hW : WB g A s.heap H locs ((hv J [42, 45] [(4, 6), (4, 7), (8, 1), (8, 2), (8, 3), (8, 4), (8, 5), (8, 6), (8, 7), (8, 8), (8, 9)] u187.1), L, (hv I [] [(6, 6), (6, 7)] u187.2), P, E, N) ((sgX g ++ dy) ++ sgM g) := joinL hW hB hk hS (frsub C (WB_L hW)) (okM hW (fun r h => hv_m (J := J) (R := [42, 45]) (F := [(4, 6), (4, 7), (8, 1), (8, 2), (8, 3), (8, 4), (8, 5), (8, 6), (8, 7), (8, 8), (8, 9)]) rfl rfl h) (fun r h => rfl))
            refine lv_pop2_2 hx hb dL_law_847 rfl ?_
            refine lv_aload_n hx hb dL_law_848 rfl (lv_at hl 3 rfl) ?_
            refine lv_aload_n hx hb dL_law_849 rfl (lv_at hl 1 rfl) ?_
            refine lv_iload_n hx hb dL_law_850 rfl (lv_at hl 0 rfl) ?_
            refine lv_iconst (v := 1) hx hb dL_law_851 (by decide) ?_
            refine lv_iadd hx hb dL_law_852 ?_
            refine lv_topi (fun x188 (e188 : x188 = i + 1) => ?_)
            try have t188 : x188.toInt = i.toInt + 1 := tadd e188 rfl kp1 (by omega)
            have hin : vp_in x188 Lx := tin rfl (by omega)
            refine va_sld hx hb hX hbl hbA hW.2.2.1 hin dL_law_853 ?_
            refine lv_as x184 (by rw [e184, e183, e188]) ?_
            refine lv_aload_n hx hb dL_law_854 rfl (lv_at hl 1 rfl) ?_
            refine lv_iload_n hx hb dL_law_855 rfl (lv_at hl 0 rfl) ?_
            refine lv_iconst (v := 2) hx hb dL_law_856 (by decide) ?_
            refine lv_iadd hx hb dL_law_857 ?_
            refine lv_topi (fun x189 (e189 : x189 = i + 2) => ?_)
            try have t189 : x189.toInt = i.toInt + 2 := tadd e189 rfl kp2 (by omega)
            have hin : vp_in x189 Lx := tin rfl (by omega)
            refine va_sld hx hb hX hbl hbA hW.2.2.1 hin dL_law_858 ?_
            refine lv_as x186 (by rw [e186, e185, e189]) ?_
            refine cl2_ C (WB_R hW) (runV (x := g.2.2.1 13) (As := [.int x184, .int x186]) (rest := []) (T := (((hv J [42, 45] [(4, 6), (4, 7), (8, 1), (8, 2), (8, 3), (8, 4), (8, 5), (8, 6), (8, 7), (8, 8), (8, 9)] u187.1), L, (hv I [] [(6, 6), (6, 7)] u187.2), P, E, N), sgM g)) C (WB_R hW) (c_X12_account_k l g (hv J [42, 45] [(4, 6), (4, 7), (8, 1), (8, 2), (8, 3), (8, 4), (8, 5), (8, 6), (8, 7), (8, 8), (8, 9)] u187.1) L (hv I [] [(6, 6), (6, 7)] u187.2) P E N H.size x184 x186 hwm hrel32) mi_X12_account tw_1432 (recv_ (T := (((hv J [42, 45] [(4, 6), (4, 7), (8, 1), (8, 2), (8, 3), (8, 4), (8, 5), (8, 6), (8, 7), (8, 8), (8, 9)] u187.1), L, (hv I [] [(6, 6), (6, 7)] u187.2), P, E, N), sgM g)) C (WB_R hW) (mm_ rfl) rfl rfl) ⟨rfl, rfl, Nat.le_of_ble_eq_true rfl, Nat.le_of_ble_eq_true rfl⟩ rfl hl.1 rfl (Nat.le_of_ble_eq_true rfl) dL_law_859 ⟨by show 1000 + 10 * k + 0 + 0 ≤ 600000; omega, by show 200000 + 20100 * k + 0 + 0 ≤ 7302250; omega⟩) (fun z190 u190 H locs hp190 hB hk hS => ?_)
            have hW : WB g A s.heap H locs ((hv (hv J [42, 45] [(4, 6), (4, 7), (8, 1), (8, 2), (8, 3), (8, 4), (8, 5), (8, 6), (8, 7), (8, 8), (8, 9)] u187.1) [100, 146, 150, 151, 152, 154, 161, 162, 163, 164] [(13, 47), (13, 48), (13, 56), (13, 57), (13, 58), (13, 59), (13, 60)] u190), L, (hv I [] [(6, 6), (6, 7)] u187.2), P, E, N) ((sgX g ++ dy) ++ sgM g) := joinR hW hB hk hS (frsub C (WB_R hW)) (fun x hx => cel_x (hv_x rfl rfl (notm hW x hx)))
            have hf190_0 : (CAC (hv (hv J [42, 45] [(4, 6), (4, 7), (8, 1), (8, 2), (8, 3), (8, 4), (8, 5), (8, 6), (8, 7), (8, 8), (8, 9)] u187.1) [100, 146, 150, 151, 152, 154, 161, 162, 163, 164] [(13, 47), (13, 48), (13, 56), (13, 57), (13, 58), (13, 59), (13, 60)] u190)) := hp190
            refine lv_pop2_2 hx hb dL_law_862 rfl ?_
            refine lv_goto (tgt := 1389) hx hb dL_law_863 (by decide) ?_
            obtain ⟨x191, e191⟩ : ∃ y : Int32, y = i + 5 := ⟨_, rfl⟩
            refine lv_iinc (v := x191) (lv' := [(3, .int x191), (0, .ref b), (1, .ref (g.2.2.1 12)), (2, .ref (g.2.2.1 13))]) hx hb dL_law_1389 hl (k := 0) rfl (by rw [e191]; rfl) (by decide) rfl (fun ls hl => ?_)
            try have t191 : x191.toInt = i.toInt + 5 := tadd e191 rfl kp5 (by omega)
            refine lv_goto (tgt := 18) hx hb dL_law_1392 (by decide) ?_
            refine W.widen (k := 1000 + 10 * (k + 1)) (n := 200000 + 20100 * (k + 1)) (by omega) (by omega) ?_
            obtain hnew32 := rel_account k g J I P E N dy u187 u190 hk64 hwf0 hwm0 hnow0 hrl0 hac0 hrel0 hrel1 hrel2 hrel3 hrel4 hrel5 hrel6 hrel7 hrel8 hrel9 hrel10 hrel11 hrel12 hrel13 hrel14 hrel15 hrel16 hrel17 hrel18 hrel19 hrel20 hrel21 hrel22 hrel23 hrel24 hrel25 hrel26 hrel27 hrel28 hrel29 hrel30 hrel31 hrel32 hrel33 hrel34 hrel35 hrel36 hrel37 hrel38 hrel39 hrel40 hrel41 hrel42 hrel43 hrel44 hf190_0
            exact ih (k + 1) x191 (hv (hv J [42, 45] [(4, 6), (4, 7), (8, 1), (8, 2), (8, 3), (8, 4), (8, 5), (8, 6), (8, 7), (8, 8), (8, 9)] u187.1) [100, 146, 150, 151, 152, 154, 161, 162, 163, 164] [(13, 47), (13, 48), (13, 56), (13, 57), (13, 58), (13, 59), (13, 60)] u190) L (hv I [] [(6, 6), (6, 7)] u187.2) P E N dy H locs ls (by omega) (by omega) (by omega) hwf hwm hnow hrl hac hrel0 hrel1 hrel2 hrel3 hrel4 hrel5 hrel6 hrel7 hrel8 hrel9 hrel10 hrel11 hrel12 hrel13 hrel14 hrel15 hrel16 hrel17 hrel18 hrel19 hrel20 hrel21 hrel22 hrel23 hrel24 hrel25 hrel26 hrel27 hrel28 hrel29 hrel30 (tol_s (a := J 13 49) (k := k) hk64 (Or.inl rfl) hrel31) hnew32 hrel33 hrel34 hrel35 hrel36 hrel37 hrel38 hrel39 hrel40 hrel41 hrel42 hrel43 hrel44 hW (lv_sub hl [0, 1, 2, 3] rfl)
          · refine lv_tableIn (off := 834) (tgt := 866) hx hb dL_law_32 (Int.not_lt.mpr c6) (Int.not_lt.mpr c6b) (by rw [c6k]; rfl) (by decide) ?_
            refine lv_aload_n hx hb dL_law_866 rfl (lv_at hl 2 rfl) ?_
            refine lv_aload_n hx hb dL_law_867 rfl (lv_at hl 1 rfl) ?_
            refine lv_iload_n hx hb dL_law_868 rfl (lv_at hl 0 rfl) ?_
            refine lv_iconst (v := 1) hx hb dL_law_869 (by decide) ?_
            refine lv_iadd hx hb dL_law_870 ?_
            refine lv_topi (fun x192 (e192 : x192 = i + 1) => ?_)
            try have t192 : x192.toInt = i.toInt + 1 := tadd e192 rfl kp1 (by omega)
            have hin : vp_in x192 Lx := tin rfl (by omega)
            refine va_sld hx hb hX hbl hbA hW.2.2.1 hin dL_law_871 ?_
            refine lv_topi (fun x193 (e193 : x193 = xs x192.toNatClampNeg) => ?_)
            refine lv_aload_n hx hb dL_law_872 rfl (lv_at hl 1 rfl) ?_
            refine lv_iload_n hx hb dL_law_873 rfl (lv_at hl 0 rfl) ?_
            refine lv_iconst (v := 2) hx hb dL_law_874 (by decide) ?_
            refine lv_iadd hx hb dL_law_875 ?_
            refine lv_topi (fun x194 (e194 : x194 = i + 2) => ?_)
            try have t194 : x194.toInt = i.toInt + 2 := tadd e194 rfl kp2 (by omega)
            have hin : vp_in x194 Lx := tin rfl (by omega)
            refine va_sld hx hb hX hbl hbA hW.2.2.1 hin dL_law_876 ?_
            refine lv_topi (fun x195 (e195 : x195 = xs x194.toNatClampNeg) => ?_)
            refine lv_if_eq (tgt := 884) hx hb dL_law_877 (by decide) (fun c196 => ?_) (fun c196 => ?_)
            · have c196 : x195.toInt = 0 := teq rfl kp0 c196
              refine lv_iconst (v := 0) hx hb dL_law_884 (by decide) ?_
              refine ci2_ C (WB_L hW) (runV (x := g.2.2.1 12) (As := [.int x193, .int 0]) (rest := []) (T := ((J, L, I, P, E, N), sgX g ++ dy)) C (WB_L hW) (c_X11_complain_e l g J L I P E N dy H.size x193 (0 : Int32) hwf (Or.inl rfl)) mi_X11_complain tw_848 (recv_ (T := ((J, L, I, P, E, N), sgX g ++ dy)) C (WB_L hW) (mx_ rfl) rfl rfl) ⟨rfl, rfl, Nat.le_of_ble_eq_true rfl, Nat.le_of_ble_eq_true rfl⟩ rfl hl.1 rfl (Nat.le_of_ble_eq_true rfl) dL_law_885 ⟨by show 1000 + 10 * k + 0 ≤ 600000; omega, by show 200000 + 20100 * k + 0 ≤ 7302250; omega⟩) (fun r197 u197 H locs hp197 hB hk hS => ?_)
              have hW : WB g A s.heap H locs ((hv J [42] [] u197.1), L, (hv I [] [(2, 4)] u197.2), P, E, N) ((sgX g ++ dy) ++ sgM g) := joinL hW hB hk hS (frsub C (WB_L hW)) (okM hW (fun r h => hv_m (J := J) (R := [42]) (F := []) rfl rfl h) (fun r h => rfl))
              have hc197 : ((r197.toInt = (-1) ∧ (¬ (0 ≤ x193.toInt ∧ x193.toInt < (J 22 2).toInt)) ∧ u197.2 2 4 = I 2 4) ∨ (r197.toInt = 0 ∧ (0 ≤ x193.toInt ∧ x193.toInt < (J 22 2).toInt) ∧ (I 2 4 (elt E P 22 x193.toNatClampNeg)).toInt = 0 ∧ u197.2 2 4 = I 2 4) ∨ (r197.toInt = 1 ∧ (0 ≤ x193.toInt ∧ x193.toInt < (J 22 2).toInt) ∧ ¬ (I 2 4 (elt E P 22 x193.toNatClampNeg)).toInt = 0 ∧ (∀ b : Nat, b ≠ elt E P 22 x193.toNatClampNeg → u197.2 2 4 b = I 2 4 b) ∧ u197.2 2 4 (elt E P 22 x193.toNatClampNeg) = 0)) := hp197
              refine lv_pop hx hb dL_law_888 rfl ?_
              refine lv_aload_n hx hb dL_law_889 rfl (lv_at hl 3 rfl) ?_
              refine lv_aload_n hx hb dL_law_890 rfl (lv_at hl 1 rfl) ?_
              refine lv_iload_n hx hb dL_law_891 rfl (lv_at hl 0 rfl) ?_
              refine lv_iconst (v := 1) hx hb dL_law_892 (by decide) ?_
              refine lv_iadd hx hb dL_law_893 ?_
              refine lv_topi (fun x198 (e198 : x198 = i + 1) => ?_)
              try have t198 : x198.toInt = i.toInt + 1 := tadd e198 rfl kp1 (by omega)
              have hin : vp_in x198 Lx := tin rfl (by omega)
              refine va_sld hx hb hX hbl hbA hW.2.2.1 hin dL_law_894 ?_
              refine lv_as x193 (by rw [e193, e192, e198]) ?_
              refine lv_aload_n hx hb dL_law_895 rfl (lv_at hl 1 rfl) ?_
              refine lv_iload_n hx hb dL_law_896 rfl (lv_at hl 0 rfl) ?_
              refine lv_iconst (v := 2) hx hb dL_law_897 (by decide) ?_
              refine lv_iadd hx hb dL_law_898 ?_
              refine lv_topi (fun x199 (e199 : x199 = i + 2) => ?_)
              try have t199 : x199.toInt = i.toInt + 2 := tadd e199 rfl kp2 (by omega)
              have hin : vp_in x199 Lx := tin rfl (by omega)
              refine va_sld hx hb hX hbl hbA hW.2.2.1 hin dL_law_899 ?_
              refine lv_as x195 (by rw [e195, e194, e199]) ?_
              refine lv_if_eq (tgt := 907) hx hb dL_law_900 (by decide) (fun c200 => ?_) (fun c200 => ?_)
              · have c200 : x195.toInt = 0 := teq rfl kp0 c200
                refine lv_iconst (v := 0) hx hb dL_law_907 (by decide) ?_
                refine ci2_ C (WB_R hW) (runV (x := g.2.2.1 13) (As := [.int x193, .int 0]) (rest := []) (T := (((hv J [42] [] u197.1), L, (hv I [] [(2, 4)] u197.2), P, E, N), sgM g)) C (WB_R hW) (c_X12_complain_q l g (hv J [42] [] u197.1) L (hv I [] [(2, 4)] u197.2) P E N H.size x193 (0 : Int32) hwm (Or.inl rfl)) mi_X12_complain tw_1452 (recv_ (T := (((hv J [42] [] u197.1), L, (hv I [] [(2, 4)] u197.2), P, E, N), sgM g)) C (WB_R hW) (mm_ rfl) rfl rfl) ⟨rfl, rfl, Nat.le_of_ble_eq_true rfl, Nat.le_of_ble_eq_true rfl⟩ rfl hl.1 rfl (Nat.le_of_ble_eq_true rfl) dL_law_908 ⟨by show 1000 + 10 * k + 0 + 0 ≤ 600000; omega, by show 200000 + 20100 * k + 0 + 0 ≤ 7302250; omega⟩) (fun r201 u201 H locs hp201 hB hk hS => ?_)
                have hW : WB g A s.heap H locs ((hv (hv J [42] [] u197.1) [100, 112] [] u201), L, (hv I [] [(2, 4)] u197.2), P, E, N) ((sgX g ++ dy) ++ sgM g) := joinR hW hB hk hS (frsub C (WB_R hW)) (fun x hx => cel_x (hv_x rfl rfl (notm hW x hx)))
                obtain ⟨hc201, hf201_0⟩ : ((r201.toInt = (-1) ∧ (¬ (0 ≤ x193.toInt ∧ x193.toInt < (J 13 35).toInt)) ∧ u201 112 = J 112) ∨ (r201.toInt = 0 ∧ (0 ≤ x193.toInt ∧ x193.toInt < (J 13 35).toInt ∧ (J 112 x193.toNatClampNeg).toInt = 0) ∧ u201 112 = up2 J 112 x193.toNatClampNeg 0 112) ∨ (r201.toInt = 1 ∧ (0 ≤ x193.toInt ∧ x193.toInt < (J 13 35).toInt ∧ ¬ (J 112 x193.toNatClampNeg).toInt = 0) ∧ u201 112 = up2 J 112 x193.toNatClampNeg 0 112)) ∧ (0 = 0 ∨ 0 = 1) := hp201
                refine lv_pop hx hb dL_law_911 rfl ?_
                refine lv_goto (tgt := 1389) hx hb dL_law_912 (by decide) ?_
                obtain ⟨x202, e202⟩ : ∃ y : Int32, y = i + 5 := ⟨_, rfl⟩
                refine lv_iinc (v := x202) (lv' := [(3, .int x202), (0, .ref b), (1, .ref (g.2.2.1 12)), (2, .ref (g.2.2.1 13))]) hx hb dL_law_1389 hl (k := 0) rfl (by rw [e202]; rfl) (by decide) rfl (fun ls hl => ?_)
                try have t202 : x202.toInt = i.toInt + 5 := tadd e202 rfl kp5 (by omega)
                refine lv_goto (tgt := 18) hx hb dL_law_1392 (by decide) ?_
                refine W.widen (k := 1000 + 10 * (k + 1)) (n := 200000 + 20100 * (k + 1)) (by omega) (by omega) ?_
                obtain ⟨hnew41, hnew42, hnew43⟩ := rel_complain k g J I P E N dy r197 x193 u197 r201 u201 hk64 hwf0 hwm0 hnow0 hrl0 hac0 hrel0 hrel1 hrel2 hrel3 hrel4 hrel5 hrel6 hrel7 hrel8 hrel9 hrel10 hrel11 hrel12 hrel13 hrel14 hrel15 hrel16 hrel17 hrel18 hrel19 hrel20 hrel21 hrel22 hrel23 hrel24 hrel25 hrel26 hrel27 hrel28 hrel29 hrel30 hrel31 hrel32 hrel33 hrel34 hrel35 hrel36 hrel37 hrel38 hrel39 hrel40 hrel41 hrel42 hrel43 hrel44 hc197 hc201 hf201_0
                exact ih (k + 1) x202 (hv (hv J [42] [] u197.1) [100, 112] [] u201) L (hv I [] [(2, 4)] u197.2) P E N dy H locs ls (by omega) (by omega) (by omega) hwf hwm hnow hrl hac hrel0 hrel1 hrel2 hrel3 hrel4 hrel5 hrel6 hrel7 hrel8 hrel9 hrel10 hrel11 hrel12 hrel13 hrel14 hrel15 hrel16 hrel17 hrel18 hrel19 hrel20 hrel21 hrel22 hrel23 hrel24 hrel25 hrel26 hrel27 hrel28 hrel29 hrel30 (tol_s (a := J 13 49) (k := k) hk64 (Or.inl rfl) hrel31) hrel32 hrel33 hrel34 hrel35 hrel36 hrel37 hrel38 hrel39 hrel40 hnew41 hnew42 hnew43 hrel44 hW (lv_sub hl [0, 1, 2, 3] rfl)
              · have c200 : ¬ x195.toInt = 0 := tne rfl kp0 c200
                exfalso; omega
            · have c196 : ¬ x195.toInt = 0 := tne rfl kp0 c196
              refine lv_iconst (v := 1) hx hb dL_law_880 (by decide) ?_
              refine lv_goto (tgt := 885) hx hb dL_law_881 (by decide) ?_
              refine ci2_ C (WB_L hW) (runV (x := g.2.2.1 12) (As := [.int x193, .int 1]) (rest := []) (T := ((J, L, I, P, E, N), sgX g ++ dy)) C (WB_L hW) (c_X11_complain_e l g J L I P E N dy H.size x193 (1 : Int32) hwf (Or.inr rfl)) mi_X11_complain tw_848 (recv_ (T := ((J, L, I, P, E, N), sgX g ++ dy)) C (WB_L hW) (mx_ rfl) rfl rfl) ⟨rfl, rfl, Nat.le_of_ble_eq_true rfl, Nat.le_of_ble_eq_true rfl⟩ rfl hl.1 rfl (Nat.le_of_ble_eq_true rfl) dL_law_885 ⟨by show 1000 + 10 * k + 0 ≤ 600000; omega, by show 200000 + 20100 * k + 0 ≤ 7302250; omega⟩) (fun r203 u203 H locs hp203 hB hk hS => ?_)
              have hW : WB g A s.heap H locs ((hv J [42] [] u203.1), L, (hv I [] [(2, 4)] u203.2), P, E, N) ((sgX g ++ dy) ++ sgM g) := joinL hW hB hk hS (frsub C (WB_L hW)) (okM hW (fun r h => hv_m (J := J) (R := [42]) (F := []) rfl rfl h) (fun r h => rfl))
              have hc203 : ((r203.toInt = (-1) ∧ (¬ (0 ≤ x193.toInt ∧ x193.toInt < (J 22 2).toInt)) ∧ u203.2 2 4 = I 2 4) ∨ (r203.toInt = 0 ∧ (0 ≤ x193.toInt ∧ x193.toInt < (J 22 2).toInt) ∧ (I 2 4 (elt E P 22 x193.toNatClampNeg)).toInt = 1 ∧ u203.2 2 4 = I 2 4) ∨ (r203.toInt = 1 ∧ (0 ≤ x193.toInt ∧ x193.toInt < (J 22 2).toInt) ∧ ¬ (I 2 4 (elt E P 22 x193.toNatClampNeg)).toInt = 1 ∧ (∀ b : Nat, b ≠ elt E P 22 x193.toNatClampNeg → u203.2 2 4 b = I 2 4 b) ∧ u203.2 2 4 (elt E P 22 x193.toNatClampNeg) = 1)) := hp203
              refine lv_pop hx hb dL_law_888 rfl ?_
              refine lv_aload_n hx hb dL_law_889 rfl (lv_at hl 3 rfl) ?_
              refine lv_aload_n hx hb dL_law_890 rfl (lv_at hl 1 rfl) ?_
              refine lv_iload_n hx hb dL_law_891 rfl (lv_at hl 0 rfl) ?_
              refine lv_iconst (v := 1) hx hb dL_law_892 (by decide) ?_
              refine lv_iadd hx hb dL_law_893 ?_
              refine lv_topi (fun x204 (e204 : x204 = i + 1) => ?_)
              try have t204 : x204.toInt = i.toInt + 1 := tadd e204 rfl kp1 (by omega)
              have hin : vp_in x204 Lx := tin rfl (by omega)
              refine va_sld hx hb hX hbl hbA hW.2.2.1 hin dL_law_894 ?_
              refine lv_as x193 (by rw [e193, e192, e204]) ?_
              refine lv_aload_n hx hb dL_law_895 rfl (lv_at hl 1 rfl) ?_
              refine lv_iload_n hx hb dL_law_896 rfl (lv_at hl 0 rfl) ?_
              refine lv_iconst (v := 2) hx hb dL_law_897 (by decide) ?_
              refine lv_iadd hx hb dL_law_898 ?_
              refine lv_topi (fun x205 (e205 : x205 = i + 2) => ?_)
              try have t205 : x205.toInt = i.toInt + 2 := tadd e205 rfl kp2 (by omega)
              have hin : vp_in x205 Lx := tin rfl (by omega)
              refine va_sld hx hb hX hbl hbA hW.2.2.1 hin dL_law_899 ?_
              refine lv_as x195 (by rw [e195, e194, e205]) ?_
              refine lv_if_eq (tgt := 907) hx hb dL_law_900 (by decide) (fun c206 => ?_) (fun c206 => ?_)
              · have c206 : x195.toInt = 0 := teq rfl kp0 c206
                exfalso; omega
              · have c206 : ¬ x195.toInt = 0 := tne rfl kp0 c206
                refine lv_iconst (v := 1) hx hb dL_law_903 (by decide) ?_
                refine lv_goto (tgt := 908) hx hb dL_law_904 (by decide) ?_
                refine ci2_ C (WB_R hW) (runV (x := g.2.2.1 13) (As := [.int x193, .int 1]) (rest := []) (T := (((hv J [42] [] u203.1), L, (hv I [] [(2, 4)] u203.2), P, E, N), sgM g)) C (WB_R hW) (c_X12_complain_q l g (hv J [42] [] u203.1) L (hv I [] [(2, 4)] u203.2) P E N H.size x193 (1 : Int32) hwm (Or.inr rfl)) mi_X12_complain tw_1452 (recv_ (T := (((hv J [42] [] u203.1), L, (hv I [] [(2, 4)] u203.2), P, E, N), sgM g)) C (WB_R hW) (mm_ rfl) rfl rfl) ⟨rfl, rfl, Nat.le_of_ble_eq_true rfl, Nat.le_of_ble_eq_true rfl⟩ rfl hl.1 rfl (Nat.le_of_ble_eq_true rfl) dL_law_908 ⟨by show 1000 + 10 * k + 0 + 0 ≤ 600000; omega, by show 200000 + 20100 * k + 0 + 0 ≤ 7302250; omega⟩) (fun r207 u207 H locs hp207 hB hk hS => ?_)
                have hW : WB g A s.heap H locs ((hv (hv J [42] [] u203.1) [100, 112] [] u207), L, (hv I [] [(2, 4)] u203.2), P, E, N) ((sgX g ++ dy) ++ sgM g) := joinR hW hB hk hS (frsub C (WB_R hW)) (fun x hx => cel_x (hv_x rfl rfl (notm hW x hx)))
                obtain ⟨hc207, hf207_0⟩ : ((r207.toInt = (-1) ∧ (¬ (0 ≤ x193.toInt ∧ x193.toInt < (J 13 35).toInt)) ∧ u207 112 = J 112) ∨ (r207.toInt = 0 ∧ (0 ≤ x193.toInt ∧ x193.toInt < (J 13 35).toInt ∧ (J 112 x193.toNatClampNeg).toInt = 1) ∧ u207 112 = up2 J 112 x193.toNatClampNeg 1 112) ∨ (r207.toInt = 1 ∧ (0 ≤ x193.toInt ∧ x193.toInt < (J 13 35).toInt ∧ ¬ (J 112 x193.toNatClampNeg).toInt = 1) ∧ u207 112 = up2 J 112 x193.toNatClampNeg 1 112)) ∧ (1 = 0 ∨ 1 = 1) := hp207
                refine lv_pop hx hb dL_law_911 rfl ?_
                refine lv_goto (tgt := 1389) hx hb dL_law_912 (by decide) ?_
                obtain ⟨x208, e208⟩ : ∃ y : Int32, y = i + 5 := ⟨_, rfl⟩
                refine lv_iinc (v := x208) (lv' := [(3, .int x208), (0, .ref b), (1, .ref (g.2.2.1 12)), (2, .ref (g.2.2.1 13))]) hx hb dL_law_1389 hl (k := 0) rfl (by rw [e208]; rfl) (by decide) rfl (fun ls hl => ?_)
                try have t208 : x208.toInt = i.toInt + 5 := tadd e208 rfl kp5 (by omega)
                refine lv_goto (tgt := 18) hx hb dL_law_1392 (by decide) ?_
                refine W.widen (k := 1000 + 10 * (k + 1)) (n := 200000 + 20100 * (k + 1)) (by omega) (by omega) ?_
                obtain ⟨hnew41, hnew42, hnew43⟩ := rel_complain_v2 k g J I P E N dy r203 x193 u203 r207 u207 hk64 hwf0 hwm0 hnow0 hrl0 hac0 hrel0 hrel1 hrel2 hrel3 hrel4 hrel5 hrel6 hrel7 hrel8 hrel9 hrel10 hrel11 hrel12 hrel13 hrel14 hrel15 hrel16 hrel17 hrel18 hrel19 hrel20 hrel21 hrel22 hrel23 hrel24 hrel25 hrel26 hrel27 hrel28 hrel29 hrel30 hrel31 hrel32 hrel33 hrel34 hrel35 hrel36 hrel37 hrel38 hrel39 hrel40 hrel41 hrel42 hrel43 hrel44 hc203 hc207 hf207_0
                exact ih (k + 1) x208 (hv (hv J [42] [] u203.1) [100, 112] [] u207) L (hv I [] [(2, 4)] u203.2) P E N dy H locs ls (by omega) (by omega) (by omega) hwf hwm hnow hrl hac hrel0 hrel1 hrel2 hrel3 hrel4 hrel5 hrel6 hrel7 hrel8 hrel9 hrel10 hrel11 hrel12 hrel13 hrel14 hrel15 hrel16 hrel17 hrel18 hrel19 hrel20 hrel21 hrel22 hrel23 hrel24 hrel25 hrel26 hrel27 hrel28 hrel29 hrel30 (tol_s (a := J 13 49) (k := k) hk64 (Or.inl rfl) hrel31) hrel32 hrel33 hrel34 hrel35 hrel36 hrel37 hrel38 hrel39 hrel40 hnew41 hnew42 hnew43 hrel44 hW (lv_sub hl [0, 1, 2, 3] rfl)
          · refine lv_tableIn (off := 883) (tgt := 915) hx hb dL_law_32 (Int.not_lt.mpr c6) (Int.not_lt.mpr c6b) (by rw [c6k]; rfl) (by decide) ?_
            refine lv_aload_n hx hb dL_law_915 rfl (lv_at hl 2 rfl) ?_
            refine lv_aload_n hx hb dL_law_916 rfl (lv_at hl 1 rfl) ?_
            refine lv_iload_n hx hb dL_law_917 rfl (lv_at hl 0 rfl) ?_
            refine lv_iconst (v := 1) hx hb dL_law_918 (by decide) ?_
            refine lv_iadd hx hb dL_law_919 ?_
            refine lv_topi (fun x209 (e209 : x209 = i + 1) => ?_)
            try have t209 : x209.toInt = i.toInt + 1 := tadd e209 rfl kp1 (by omega)
            have hin : vp_in x209 Lx := tin rfl (by omega)
            refine va_sld hx hb hX hbl hbA hW.2.2.1 hin dL_law_920 ?_
            refine lv_topi (fun x210 (e210 : x210 = xs x209.toNatClampNeg) => ?_)
            refine ci2_ C (WB_L hW) (runV (x := g.2.2.1 12) (As := [.int x210]) (rest := []) (T := ((J, L, I, P, E, N), sgX g ++ dy)) C (WB_L hW) (c_X11_breaks_q l g J L I P E N dy H.size x210 hwf hrel28 hrel41 (by have h8 := hwm.1.1; have h9 := hrel11; omega)) mi_X11_breaks tw_852 (recv_ (T := ((J, L, I, P, E, N), sgX g ++ dy)) C (WB_L hW) (mx_ rfl) rfl rfl) ⟨rfl, rfl, Nat.le_of_ble_eq_true rfl, Nat.le_of_ble_eq_true rfl⟩ rfl hl.1 rfl (Nat.le_of_ble_eq_true rfl) dL_law_921 ⟨by show 1000 + 10 * k + 0 ≤ 600000; omega, by show 200000 + 20100 * k + 0 ≤ 7302250; omega⟩) (fun r211 u211 H locs hp211 hB hk hS => ?_)
            have hW : WB g A s.heap H locs ((hv J [42] [] u211), L, I, P, E, N) ((sgX g ++ dy) ++ sgM g) := joinL hW hB hk hS (frsub C (WB_L hW)) (okM hW (fun r h => hv_m (J := J) (R := [42]) (F := []) rfl rfl h) (fun r h => rfl))
            have hc211 : ((r211.toInt = (-2) ∧ (¬ (0 ≤ x210.toInt ∧ x210.toInt ≤ 2))) ∨ (r211 = r211 ∧ (0 ≤ x210.toInt ∧ x210.toInt ≤ 2) ∧ (∃ o : Int32, OPN o (J 112) (J 108) (fun k => I 6 2 (elt E P 20 k)) (J 22 2).toInt (J 20 2).toInt ∧ BKR (BRF (fun t => HIT2 (SQ o t) (J 112) (J 108) (fun k => I 6 2 (elt E P 20 k)) (J 22 2).toInt) (fun t => CB (tN (SQ o t)) 32) (fun t => (SQ o t).toInt) (2 ^ CB (tN o) 24)) x210.toInt r211.toInt))) := hp211
            refine lv_aload_n hx hb dL_law_924 rfl (lv_at hl 3 rfl) ?_
            refine lv_aload_n hx hb dL_law_925 rfl (lv_at hl 1 rfl) ?_
            refine lv_iload_n hx hb dL_law_926 rfl (lv_at hl 0 rfl) ?_
            refine lv_iconst (v := 1) hx hb dL_law_927 (by decide) ?_
            refine lv_iadd hx hb dL_law_928 ?_
            refine lv_topi (fun x212 (e212 : x212 = i + 1) => ?_)
            try have t212 : x212.toInt = i.toInt + 1 := tadd e212 rfl kp1 (by omega)
            have hin : vp_in x212 Lx := tin rfl (by omega)
            refine va_sld hx hb hX hbl hbA hW.2.2.1 hin dL_law_929 ?_
            refine lv_as x210 (by rw [e210, e209, e212]) ?_
            refine ci2_ C (WB_R hW) (runV (x := g.2.2.1 13) (As := [.int x210]) (rest := [.int r211]) (T := (((hv J [42] [] u211), L, I, P, E, N), sgM g)) C (WB_R hW) (c_X12_breaks_q l g (hv J [42] [] u211) L I P E N H.size x210 hwm hrel43) mi_X12_breaks tw_1456 (recv_ (T := (((hv J [42] [] u211), L, I, P, E, N), sgM g)) C (WB_R hW) (mm_ rfl) rfl rfl) ⟨rfl, rfl, Nat.le_of_ble_eq_true rfl, Nat.le_of_ble_eq_true rfl⟩ rfl hl.1 rfl (Nat.le_of_ble_eq_true rfl) dL_law_930 ⟨by show 1000 + 10 * k + 0 + 0 ≤ 600000; omega, by show 200000 + 20100 * k + 0 + 0 ≤ 7302250; omega⟩) (fun r213 u213 H locs hp213 hB hk hS => ?_)
            have hW : WB g A s.heap H locs ((hv (hv J [42] [] u211) [100] [] u213), L, I, P, E, N) ((sgX g ++ dy) ++ sgM g) := joinR hW hB hk hS (frsub C (WB_R hW)) (fun x hx => cel_x (hv_x rfl rfl (notm hW x hx)))
            have hc213 : ((r213.toInt = (-2) ∧ (¬ (0 ≤ x210.toInt ∧ x210.toInt ≤ 2))) ∨ (r213 = r213 ∧ (0 ≤ x210.toInt ∧ x210.toInt ≤ 2) ∧ (BKR (BRF (fun t => EXPL (J 101) (Int32.ofNat (2 * t)) (J 112) (J 108) (J 13 35).toInt) (fun t => CB (2 * t) 32) (fun t => ((2 * t : Nat) : Int)) (2 ^ (min 12 (J 13 32).toInt.toNat - 1))) x210.toInt r213.toInt))) := hp213
            refine lv_icmp_eq (tgt := 1389) hx hb dL_law_933 (by decide) (fun c214 => ?_) (fun c214 => ?_)
            · have c214 : r211.toInt = r213.toInt := teq rfl rfl c214
              obtain ⟨x215, e215⟩ : ∃ y : Int32, y = i + 5 := ⟨_, rfl⟩
              refine lv_iinc (v := x215) (lv' := [(3, .int x215), (0, .ref b), (1, .ref (g.2.2.1 12)), (2, .ref (g.2.2.1 13))]) hx hb dL_law_1389 hl (k := 0) rfl (by rw [e215]; rfl) (by decide) rfl (fun ls hl => ?_)
              try have t215 : x215.toInt = i.toInt + 5 := tadd e215 rfl kp5 (by omega)
              refine lv_goto (tgt := 18) hx hb dL_law_1392 (by decide) ?_
              refine W.widen (k := 1000 + 10 * (k + 1)) (n := 200000 + 20100 * (k + 1)) (by omega) (by omega) ?_
              exact ih (k + 1) x215 (hv (hv J [42] [] u211) [100] [] u213) L I P E N dy H locs ls (by omega) (by omega) (by omega) hwf hwm hnow hrl hac hrel0 hrel1 hrel2 hrel3 hrel4 hrel5 hrel6 hrel7 hrel8 hrel9 hrel10 hrel11 hrel12 hrel13 hrel14 hrel15 hrel16 hrel17 hrel18 hrel19 hrel20 hrel21 hrel22 hrel23 hrel24 hrel25 hrel26 hrel27 hrel28 hrel29 hrel30 (tol_s (a := J 13 49) (k := k) hk64 (Or.inl rfl) hrel31) hrel32 hrel33 hrel34 hrel35 hrel36 hrel37 hrel38 hrel39 hrel40 hrel41 hrel42 hrel43 hrel44 hW (lv_sub hl [0, 1, 2, 3] rfl)
            · have c214 : ¬ r211.toInt = r213.toInt := tne rfl rfl c214
              exact (cmp_breaks k g J I P E N dy r211 x210 r213 hk64 hwf0 hwm0 hnow0 hrl0 hac0 hrel0 hrel1 hrel2 hrel3 hrel4 hrel5 hrel6 hrel7 hrel8 hrel9 hrel10 hrel11 hrel12 hrel13 hrel14 hrel15 hrel16 hrel17 hrel18 hrel19 hrel20 hrel21 hrel22 hrel23 hrel24 hrel25 hrel26 hrel27 hrel28 hrel29 hrel30 hrel31 hrel32 hrel33 hrel34 hrel35 hrel36 hrel37 hrel38 hrel39 hrel40 hrel41 hrel42 hrel43 hrel44 hc211 hc213 c214).elim
          · refine lv_tableIn (off := 906) (tgt := 938) hx hb dL_law_32 (Int.not_lt.mpr c6) (Int.not_lt.mpr c6b) (by rw [c6k]; rfl) (by decide) ?_
            refine lv_aload_n hx hb dL_law_938 rfl (lv_at hl 2 rfl) ?_
            refine lv_aload_n hx hb dL_law_939 rfl (lv_at hl 1 rfl) ?_
            refine lv_iload_n hx hb dL_law_940 rfl (lv_at hl 0 rfl) ?_
            refine lv_iconst (v := 1) hx hb dL_law_941 (by decide) ?_
            refine lv_iadd hx hb dL_law_942 ?_
            refine lv_topi (fun x216 (e216 : x216 = i + 1) => ?_)
            try have t216 : x216.toInt = i.toInt + 1 := tadd e216 rfl kp1 (by omega)
            have hin : vp_in x216 Lx := tin rfl (by omega)
            refine va_sld hx hb hX hbl hbA hW.2.2.1 hin dL_law_943 ?_
            refine lv_topi (fun x217 (e217 : x217 = xs x216.toNatClampNeg) => ?_)
            refine lv_aload_n hx hb dL_law_944 rfl (lv_at hl 1 rfl) ?_
            refine lv_iload_n hx hb dL_law_945 rfl (lv_at hl 0 rfl) ?_
            refine lv_iconst (v := 2) hx hb dL_law_946 (by decide) ?_
            refine lv_iadd hx hb dL_law_947 ?_
            refine lv_topi (fun x218 (e218 : x218 = i + 2) => ?_)
            try have t218 : x218.toInt = i.toInt + 2 := tadd e218 rfl kp2 (by omega)
            have hin : vp_in x218 Lx := tin rfl (by omega)
            refine va_sld hx hb hX hbl hbA hW.2.2.1 hin dL_law_948 ?_
            refine lv_topi (fun x219 (e219 : x219 = xs x218.toNatClampNeg) => ?_)
            refine ci2_ C (WB_L hW) (runV (x := g.2.2.1 12) (As := [.int x217, .int x219]) (rest := []) (T := ((J, L, I, P, E, N), sgX g ++ dy)) C (WB_L hW) (c_X11_could_b l g J L I P E N dy H.size x217 x219 hwf) mi_X11_could tw_874 (recv_ (T := ((J, L, I, P, E, N), sgX g ++ dy)) C (WB_L hW) (mx_ rfl) rfl rfl) ⟨rfl, rfl, Nat.le_of_ble_eq_true rfl, Nat.le_of_ble_eq_true rfl⟩ rfl hl.1 rfl (Nat.le_of_ble_eq_true rfl) dL_law_949 ⟨by show 1000 + 10 * k + 10 ≤ 600000; omega, by show 200000 + 20100 * k + 20100 ≤ 7302250; omega⟩) (fun r220 u220 H locs hp220 hB hk hS => ?_)
            have hW : WB g A s.heap H locs ((hv J [42] [(23, 0), (23, 2)] u220.1), L, (hv I [] [(6, 4)] u220.2.1), (hv P [33] [] u220.2.2.1), (hv1 E [23] u220.2.2.2.1), u220.2.2.2.2.1) ((sgX g ++ u220.2.2.2.2.2) ++ sgM g) := joinL hW hB hk hS (frsub C (WB_L hW)) (okM hW (fun r h => hv_m (J := J) (R := [42]) (F := [(23, 0), (23, 2)]) rfl rfl h) (fun r h => rfl))
            obtain ⟨hc220, hwf, hdd220, hf220_0⟩ := hp220
            refine lv_pop hx hb dL_law_952 rfl ?_
            refine lv_aload_n hx hb dL_law_953 rfl (lv_at hl 3 rfl) ?_
            refine lv_aload_n hx hb dL_law_954 rfl (lv_at hl 1 rfl) ?_
            refine lv_iload_n hx hb dL_law_955 rfl (lv_at hl 0 rfl) ?_
            refine lv_iconst (v := 1) hx hb dL_law_956 (by decide) ?_
            refine lv_iadd hx hb dL_law_957 ?_
            refine lv_topi (fun x221 (e221 : x221 = i + 1) => ?_)
            try have t221 : x221.toInt = i.toInt + 1 := tadd e221 rfl kp1 (by omega)
            have hin : vp_in x221 Lx := tin rfl (by omega)
            refine va_sld hx hb hX hbl hbA hW.2.2.1 hin dL_law_958 ?_
            refine lv_as x217 (by rw [e217, e216, e221]) ?_
            refine lv_aload_n hx hb dL_law_959 rfl (lv_at hl 1 rfl) ?_
            refine lv_iload_n hx hb dL_law_960 rfl (lv_at hl 0 rfl) ?_
            refine lv_iconst (v := 2) hx hb dL_law_961 (by decide) ?_
            refine lv_iadd hx hb dL_law_962 ?_
            refine lv_topi (fun x222 (e222 : x222 = i + 2) => ?_)
            try have t222 : x222.toInt = i.toInt + 2 := tadd e222 rfl kp2 (by omega)
            have hin : vp_in x222 Lx := tin rfl (by omega)
            refine va_sld hx hb hX hbl hbA hW.2.2.1 hin dL_law_963 ?_
            refine lv_as x219 (by rw [e219, e218, e222]) ?_
            refine ci2_ C (WB_R hW) (runV (x := g.2.2.1 13) (As := [.int x217, .int x219]) (rest := []) (T := (((hv J [42] [(23, 0), (23, 2)] u220.1), L, (hv I [] [(6, 4)] u220.2.1), (hv P [33] [] u220.2.2.1), (hv1 E [23] u220.2.2.2.1), u220.2.2.2.2.1), sgM g)) C (WB_R hW) (c_X12_could_b l g (hv J [42] [(23, 0), (23, 2)] u220.1) L (hv I [] [(6, 4)] u220.2.1) (hv P [33] [] u220.2.2.1) (hv1 E [23] u220.2.2.2.1) u220.2.2.2.2.1 H.size x217 x219 hwm) mi_X12_could tw_1467 (recv_ (T := (((hv J [42] [(23, 0), (23, 2)] u220.1), L, (hv I [] [(6, 4)] u220.2.1), (hv P [33] [] u220.2.2.1), (hv1 E [23] u220.2.2.2.1), u220.2.2.2.2.1), sgM g)) C (WB_R hW) (mm_ rfl) rfl rfl) ⟨rfl, rfl, Nat.le_of_ble_eq_true rfl, Nat.le_of_ble_eq_true rfl⟩ rfl hl.1 rfl (Nat.le_of_ble_eq_true rfl) dL_law_964 ⟨by show 1000 + 10 * k + 10 + 0 ≤ 600000; omega, by show 200000 + 20100 * k + 20100 + 0 ≤ 7302250; omega⟩) (fun r223 u223 H locs hp223 hB hk hS => ?_)
            have hW : WB g A s.heap H locs ((hv (hv J [42] [(23, 0), (23, 2)] u220.1) [100, 125, 126] [(13, 41)] u223), L, (hv I [] [(6, 4)] u220.2.1), (hv P [33] [] u220.2.2.1), (hv1 E [23] u220.2.2.2.1), u220.2.2.2.2.1) ((sgX g ++ u220.2.2.2.2.2) ++ sgM g) := joinR hW hB hk hS (frsub C (WB_R hW)) (fun x hx => cel_x (hv_x rfl rfl (notm hW x hx)))
            obtain ⟨hwm, hc223⟩ : WM (hv (hv J [42] [(23, 0), (23, 2)] u220.1) [100, 125, 126] [(13, 41)] u223) ∧ ((r223.toInt = (-1) ∧ (¬ (0 ≤ x217.toInt ∧ x217.toInt < (J 13 32).toInt)) ∧ u223 13 41 = J 13 41 ∧ u223 125 = J 125 ∧ u223 126 = J 126) ∨ (r223.toInt = (-3) ∧ (0 ≤ x217.toInt ∧ x217.toInt < (J 13 32).toInt) ∧ u223 13 41 = J 13 41 ∧ u223 125 = J 125 ∧ u223 126 = J 126 ∧ (∃ k : Nat, (k : Int) < (J 13 41).toInt ∧ (J 125 k).toInt = x217.toInt)) ∨ (r223.toInt = (-4) ∧ (0 ≤ x217.toInt ∧ x217.toInt < (J 13 32).toInt ∧ x219.toInt < 1) ∧ u223 13 41 = J 13 41 ∧ u223 125 = J 125 ∧ u223 126 = J 126 ∧ (∀ k : Nat, (k : Int) < (J 13 41).toInt → ¬ (J 125 k).toInt = x217.toInt)) ∨ (r223.toInt = (-6) ∧ (0 ≤ x217.toInt ∧ x217.toInt < (J 13 32).toInt ∧ 1 ≤ x219.toInt ∧ (99 < x219.toInt ∨ (J 13 41).toInt = 9)) ∧ u223 13 41 = J 13 41 ∧ u223 125 = J 125 ∧ u223 126 = J 126 ∧ (∀ k : Nat, (k : Int) < (J 13 41).toInt → ¬ (J 125 k).toInt = x217.toInt)) ∨ (r223.toInt = (J 13 41).toInt ∧ (0 ≤ x217.toInt ∧ x217.toInt < (J 13 32).toInt ∧ 1 ≤ x219.toInt ∧ x219.toInt ≤ 99 ∧ (J 13 41).toInt ≤ 8) ∧ (u223 13 41).toInt = (J 13 41).toInt + 1 ∧ u223 125 = up2 J 125 (J 13 41).toNatClampNeg x217 125 ∧ u223 126 = up2 J 126 (J 13 41).toNatClampNeg x219 126 ∧ (∀ k : Nat, (k : Int) < (J 13 41).toInt → ¬ (J 125 k).toInt = x217.toInt))) := hp223
            refine lv_pop hx hb dL_law_967 rfl ?_
            refine lv_goto (tgt := 1389) hx hb dL_law_968 (by decide) ?_
            obtain ⟨x224, e224⟩ : ∃ y : Int32, y = i + 5 := ⟨_, rfl⟩
            refine lv_iinc (v := x224) (lv' := [(3, .int x224), (0, .ref b), (1, .ref (g.2.2.1 12)), (2, .ref (g.2.2.1 13))]) hx hb dL_law_1389 hl (k := 0) rfl (by rw [e224]; rfl) (by decide) rfl (fun ls hl => ?_)
            try have t224 : x224.toInt = i.toInt + 5 := tadd e224 rfl kp5 (by omega)
            refine lv_goto (tgt := 18) hx hb dL_law_1392 (by decide) ?_
            refine W.widen (k := 1000 + 10 * (k + 1)) (n := 200000 + 20100 * (k + 1)) (by omega) (by omega) ?_
            obtain ⟨hnew16, hnew33, hnew34, hnew35, hnew36⟩ := rel_could k g J I P E N dy r220 x217 u220 x219 r223 u223 hk64 hwf0 hwm0 hnow0 hrl0 hac0 hrel0 hrel1 hrel2 hrel3 hrel4 hrel5 hrel6 hrel7 hrel8 hrel9 hrel10 hrel11 hrel12 hrel13 hrel14 hrel15 hrel16 hrel17 hrel18 hrel19 hrel20 hrel21 hrel22 hrel23 hrel24 hrel25 hrel26 hrel27 hrel28 hrel29 hrel30 hrel31 hrel32 hrel33 hrel34 hrel35 hrel36 hrel37 hrel38 hrel39 hrel40 hrel41 hrel42 hrel43 hrel44 hc220 hf220_0 hc223
            exact ih (k + 1) x224 (hv (hv J [42] [(23, 0), (23, 2)] u220.1) [100, 125, 126] [(13, 41)] u223) L (hv I [] [(6, 4)] u220.2.1) (hv P [33] [] u220.2.2.1) (hv1 E [23] u220.2.2.2.1) u220.2.2.2.2.1 u220.2.2.2.2.2 H locs ls (by omega) (by omega) (by omega) hwf hwm hnow hrl hac hrel0 hrel1 hrel2 hrel3 hrel4 hrel5 hrel6 hrel7 hrel8 hrel9 hrel10 hrel11 hrel12 hrel13 hrel14 hrel15 hnew16 hrel17 hrel18 hrel19 hrel20 hrel21 hrel22 hrel23 hrel24 hrel25 hrel26 hrel27 hrel28 hrel29 hrel30 (tol_s (a := J 13 49) (k := k) hk64 (Or.inl rfl) hrel31) hrel32 hnew33 hnew34 hnew35 hnew36 hrel37 hrel38 hrel39 hrel40 hrel41 hrel42 hrel43 hrel44 hW (lv_sub hl [0, 1, 2, 3] rfl)
          · refine lv_tableIn (off := 939) (tgt := 971) hx hb dL_law_32 (Int.not_lt.mpr c6) (Int.not_lt.mpr c6b) (by rw [c6k]; rfl) (by decide) ?_
            refine lv_aload_n hx hb dL_law_971 rfl (lv_at hl 2 rfl) ?_
            refine lv_aload_n hx hb dL_law_972 rfl (lv_at hl 1 rfl) ?_
            refine lv_iload_n hx hb dL_law_973 rfl (lv_at hl 0 rfl) ?_
            refine lv_iconst (v := 1) hx hb dL_law_974 (by decide) ?_
            refine lv_iadd hx hb dL_law_975 ?_
            refine lv_topi (fun x225 (e225 : x225 = i + 1) => ?_)
            try have t225 : x225.toInt = i.toInt + 1 := tadd e225 rfl kp1 (by omega)
            have hin : vp_in x225 Lx := tin rfl (by omega)
            refine va_sld hx hb hX hbl hbA hW.2.2.1 hin dL_law_976 ?_
            refine lv_topi (fun x226 (e226 : x226 = xs x225.toNatClampNeg) => ?_)
            refine ci2_ C (WB_L hW) (runV (x := g.2.2.1 12) (As := [.int x226]) (rest := []) (T := ((J, L, I, P, E, N), sgX g ++ dy)) C (WB_L hW) (c_X11_boosts_b l g J L I P E N dy H.size x226 hwf hrel21 hrel20 hrel27 hrel28 (by rw [hrel34]; exact hrel36) (by have h8 := hwm.1.2.2.2.2.2.2.2.2.2.1; have h9 := hrel34; omega) hrel25) mi_X11_boosts tw_878 (recv_ (T := ((J, L, I, P, E, N), sgX g ++ dy)) C (WB_L hW) (mx_ rfl) rfl rfl) ⟨rfl, rfl, Nat.le_of_ble_eq_true rfl, Nat.le_of_ble_eq_true rfl⟩ rfl hl.1 rfl (Nat.le_of_ble_eq_true rfl) dL_law_977 ⟨by show 1000 + 10 * k + 0 ≤ 600000; omega, by show 200000 + 20100 * k + 0 ≤ 7302250; omega⟩) (fun r227 u227 H locs hp227 hB hk hS => ?_)
            have hW : WB g A s.heap H locs ((hv J [42] [] u227.1), L, (hv I [] [(6, 5), (6, 6), (6, 7)] u227.2), P, E, N) ((sgX g ++ dy) ++ sgM g) := joinL hW hB hk hS (frsub C (WB_L hW)) (okM hW (fun r h => hv_m (J := J) (R := [42]) (F := []) rfl rfl h) (fun r h => rfl))
            obtain ⟨hc227, hf227_0⟩ : ((r227.toInt = (-4) ∧ (x226.toInt < 1)) ∨ (r227.toInt = (-6) ∧ (999 < x226.toInt)) ∨ (r227 = r227 ∧ (1 ≤ x226.toInt ∧ x226.toInt ≤ 999) ∧ (∃ x : Nat → Int32, SND x (J 101) (fun k => I 6 1 (elt E P 20 k)) (fun k => I 6 3 (elt E P 20 k)) (EXS (J 125) (J 126) (Int32.ofNat (2 ^ (J 23 2).toInt.toNat - 1)) (J 23 2).toInt.toNat) (CUTP (J 105) (J 106) (J 107) (J 21 2).toInt (-1 : Int32).toInt) x226 (J 4 4) (J 20 2).toInt ∧ ((¬ HALC x (J 109) (J 108) (J 4 5) (J 22 2).toInt ∧ r227.toInt = -9) ∨ (HALC x (J 109) (J 108) (J 4 5) (J 22 2).toInt ∧ r227.toInt = (BSF (fun t => (∃ x : Nat → Int32, SND x (J 101) (fun k => I 6 1 (elt E P 20 k)) (fun k => I 6 3 (elt E P 20 k)) (EXS (J 125) (J 126) (Int32.ofNat t) (J 23 2).toInt.toNat) (CUTP (J 105) (J 106) (J 107) (J 21 2).toInt (-1 : Int32).toInt) x226 (J 4 4) (J 20 2).toInt ∧ HALC x (J 109) (J 108) (J 4 5) (J 22 2).toInt)) (fun t => CB t 32) (fun t => (t : Int)) (2 ^ (J 23 2).toInt.toNat)).1))))) ∧ (∀ b : Nat, (I 6 5 b).toInt = 0 → (u227.2 6 5 b).toInt = 0) := hp227
            refine lv_pop hx hb dL_law_980 rfl ?_
            refine lv_aload_n hx hb dL_law_981 rfl (lv_at hl 3 rfl) ?_
            refine lv_aload_n hx hb dL_law_982 rfl (lv_at hl 1 rfl) ?_
            refine lv_iload_n hx hb dL_law_983 rfl (lv_at hl 0 rfl) ?_
            refine lv_iconst (v := 1) hx hb dL_law_984 (by decide) ?_
            refine lv_iadd hx hb dL_law_985 ?_
            refine lv_topi (fun x228 (e228 : x228 = i + 1) => ?_)
            try have t228 : x228.toInt = i.toInt + 1 := tadd e228 rfl kp1 (by omega)
            have hin : vp_in x228 Lx := tin rfl (by omega)
            refine va_sld hx hb hX hbl hbA hW.2.2.1 hin dL_law_986 ?_
            refine lv_as x226 (by rw [e226, e225, e228]) ?_
            refine ci2_ C (WB_R hW) (runV (x := g.2.2.1 13) (As := [.int x226]) (rest := []) (T := (((hv J [42] [] u227.1), L, (hv I [] [(6, 5), (6, 6), (6, 7)] u227.2), P, E, N), sgM g)) C (WB_R hW) (c_X12_boosts_b l g (hv J [42] [] u227.1) L (hv I [] [(6, 5), (6, 6), (6, 7)] u227.2) P E N H.size x226 hwm hrel26) mi_X12_boosts tw_1471 (recv_ (T := (((hv J [42] [] u227.1), L, (hv I [] [(6, 5), (6, 6), (6, 7)] u227.2), P, E, N), sgM g)) C (WB_R hW) (mm_ rfl) rfl rfl) ⟨rfl, rfl, Nat.le_of_ble_eq_true rfl, Nat.le_of_ble_eq_true rfl⟩ rfl hl.1 rfl (Nat.le_of_ble_eq_true rfl) dL_law_987 ⟨by show 1000 + 10 * k + 0 + 0 ≤ 600000; omega, by show 200000 + 20100 * k + 0 + 0 ≤ 7302250; omega⟩) (fun r229 u229 H locs hp229 hB hk hS => ?_)
            have hW : WB g A s.heap H locs ((hv (hv J [42] [] u227.1) [100, 104, 146] [] u229), L, (hv I [] [(6, 5), (6, 6), (6, 7)] u227.2), P, E, N) ((sgX g ++ dy) ++ sgM g) := joinR hW hB hk hS (frsub C (WB_R hW)) (fun x hx => cel_x (hv_x rfl rfl (notm hW x hx)))
            obtain ⟨hc229, hf229_0⟩ : ((r229.toInt = (-4) ∧ (x226.toInt < 1)) ∨ (r229.toInt = (-6) ∧ (999 < x226.toInt)) ∨ (r229 = r229 ∧ (1 ≤ x226.toInt ∧ x226.toInt ≤ 999) ∧ (r229.toInt = (BSF (fun t => (∃ y : Nat → Int32, SND y (J 101) (J 102) (J 103) (EXS (J 125) (J 126) (Int32.ofNat t) (J 13 41).toInt.toNat) (fun k => 0 ≤ (-1 : Int32).toInt ∧ CUTP (J 105) (J 106) (J 107) (J 13 34).toInt (-1 : Int32).toInt k) x226 (J 13 33) (J 13 32).toInt ∧ HALM y (J 109) (J 108) (J 13 36) (J 13 35).toInt)) (fun t => CB t 32) (fun t => (t : Int)) (2 ^ (J 13 41).toInt.toNat)).1))) ∧ ((∀ k : Nat, J 104 k = 0) → ∀ k : Nat, u229 104 k = 0) := hp229
            refine lv_pop hx hb dL_law_990 rfl ?_
            refine lv_goto (tgt := 1389) hx hb dL_law_991 (by decide) ?_
            obtain ⟨x230, e230⟩ : ∃ y : Int32, y = i + 5 := ⟨_, rfl⟩
            refine lv_iinc (v := x230) (lv' := [(3, .int x230), (0, .ref b), (1, .ref (g.2.2.1 12)), (2, .ref (g.2.2.1 13))]) hx hb dL_law_1389 hl (k := 0) rfl (by rw [e230]; rfl) (by decide) rfl (fun ls hl => ?_)
            try have t230 : x230.toInt = i.toInt + 5 := tadd e230 rfl kp5 (by omega)
            refine lv_goto (tgt := 18) hx hb dL_law_1392 (by decide) ?_
            refine W.widen (k := 1000 + 10 * (k + 1)) (n := 200000 + 20100 * (k + 1)) (by omega) (by omega) ?_
            obtain ⟨hnew25, hnew26, hnew32⟩ := rel_boosts k g J I P E N dy r227 x226 u227 r229 u229 hk64 hwf0 hwm0 hnow0 hrl0 hac0 hrel0 hrel1 hrel2 hrel3 hrel4 hrel5 hrel6 hrel7 hrel8 hrel9 hrel10 hrel11 hrel12 hrel13 hrel14 hrel15 hrel16 hrel17 hrel18 hrel19 hrel20 hrel21 hrel22 hrel23 hrel24 hrel25 hrel26 hrel27 hrel28 hrel29 hrel30 hrel31 hrel32 hrel33 hrel34 hrel35 hrel36 hrel37 hrel38 hrel39 hrel40 hrel41 hrel42 hrel43 hrel44 hc227 hf227_0 hc229 hf229_0
            exact ih (k + 1) x230 (hv (hv J [42] [] u227.1) [100, 104, 146] [] u229) L (hv I [] [(6, 5), (6, 6), (6, 7)] u227.2) P E N dy H locs ls (by omega) (by omega) (by omega) hwf hwm hnow hrl hac hrel0 hrel1 hrel2 hrel3 hrel4 hrel5 hrel6 hrel7 hrel8 hrel9 hrel10 hrel11 hrel12 hrel13 hrel14 hrel15 hrel16 hrel17 hrel18 hrel19 hrel20 hrel21 hrel22 hrel23 hrel24 hnew25 hnew26 hrel27 hrel28 hrel29 hrel30 (tol_s (a := J 13 49) (k := k) hk64 (Or.inl rfl) hrel31) hnew32 hrel33 hrel34 hrel35 hrel36 hrel37 hrel38 hrel39 hrel40 hrel41 hrel42 hrel43 hrel44 hW (lv_sub hl [0, 1, 2, 3] rfl)
          · refine lv_tableIn (off := 962) (tgt := 994) hx hb dL_law_32 (Int.not_lt.mpr c6) (Int.not_lt.mpr c6b) (by rw [c6k]; rfl) (by decide) ?_
            refine lv_aload_n hx hb dL_law_994 rfl (lv_at hl 2 rfl) ?_
            refine lv_aload_n hx hb dL_law_995 rfl (lv_at hl 1 rfl) ?_
            refine lv_iload_n hx hb dL_law_996 rfl (lv_at hl 0 rfl) ?_
            refine lv_iconst (v := 1) hx hb dL_law_997 (by decide) ?_
            refine lv_iadd hx hb dL_law_998 ?_
            refine lv_topi (fun x231 (e231 : x231 = i + 1) => ?_)
            try have t231 : x231.toInt = i.toInt + 1 := tadd e231 rfl kp1 (by omega)
            have hin : vp_in x231 Lx := tin rfl (by omega)
            refine va_sld hx hb hX hbl hbA hW.2.2.1 hin dL_law_999 ?_
            refine lv_topi (fun x232 (e232 : x232 = xs x231.toNatClampNeg) => ?_)
            refine lv_aload_n hx hb dL_law_1000 rfl (lv_at hl 1 rfl) ?_
            refine lv_iload_n hx hb dL_law_1001 rfl (lv_at hl 0 rfl) ?_
            refine lv_iconst (v := 2) hx hb dL_law_1002 (by decide) ?_
            refine lv_iadd hx hb dL_law_1003 ?_
            refine lv_topi (fun x233 (e233 : x233 = i + 2) => ?_)
            try have t233 : x233.toInt = i.toInt + 2 := tadd e233 rfl kp2 (by omega)
            have hin : vp_in x233 Lx := tin rfl (by omega)
            refine va_sld hx hb hX hbl hbA hW.2.2.1 hin dL_law_1004 ?_
            refine lv_topi (fun x234 (e234 : x234 = xs x233.toNatClampNeg) => ?_)
            refine lv_aload_n hx hb dL_law_1005 rfl (lv_at hl 1 rfl) ?_
            refine lv_iload_n hx hb dL_law_1006 rfl (lv_at hl 0 rfl) ?_
            refine lv_iconst (v := 3) hx hb dL_law_1007 (by decide) ?_
            refine lv_iadd hx hb dL_law_1008 ?_
            refine lv_topi (fun x235 (e235 : x235 = i + 3) => ?_)
            try have t235 : x235.toInt = i.toInt + 3 := tadd e235 rfl kp3 (by omega)
            have hin : vp_in x235 Lx := tin rfl (by omega)
            refine va_sld hx hb hX hbl hbA hW.2.2.1 hin dL_law_1009 ?_
            refine lv_topi (fun x236 (e236 : x236 = xs x235.toNatClampNeg) => ?_)
            refine ci2_ C (WB_L hW) (runV (x := g.2.2.1 12) (As := [.int x232, .int x234, .int x236]) (rest := []) (T := ((J, L, I, P, E, N), sgX g ++ dy)) C (WB_L hW) (c_X11_covers_e l g J L I P E N dy H.size x232 x234 x236 hwf hrel21 hrel20 hrel27 hrel28 hrel9 hnow.2.1 (by have h9 := hwm.1.2.2.2.2.1; have h8 := hrel12; omega)) mi_X11_covers tw_895 (recv_ (T := ((J, L, I, P, E, N), sgX g ++ dy)) C (WB_L hW) (mx_ rfl) rfl rfl) ⟨rfl, rfl, Nat.le_of_ble_eq_true rfl, Nat.le_of_ble_eq_true rfl⟩ rfl hl.1 rfl (Nat.le_of_ble_eq_true rfl) dL_law_1010 ⟨by show 1000 + 10 * k + 0 ≤ 600000; omega, by show 200000 + 20100 * k + 0 ≤ 7302250; omega⟩) (fun r237 u237 H locs hp237 hB hk hS => ?_)
            have hW : WB g A s.heap H locs ((hv J [42] [] u237.1), (hv L [47] [] u237.2.1), (hv I [] [(6, 6), (6, 7)] u237.2.2), P, E, N) ((sgX g ++ dy) ++ sgM g) := joinL hW hB hk hS (frsub C (WB_L hW)) (okM hW (fun r h => hv_m (J := J) (R := [42]) (F := []) rfl rfl h) (fun r h => hv_m (J := L) (R := [47]) (F := []) rfl rfl h))
            have hc237 : ((r237.toInt = (-1) ∧ (¬ (0 ≤ x232.toInt ∧ x232.toInt < (J 3 1).toInt))) ∨ (r237.toInt = (-4) ∧ ((0 ≤ x232.toInt ∧ x232.toInt < (J 3 1).toInt) ∧ (x234.toInt < 0 ∨ x236.toInt < 1))) ∨ (r237.toInt = (-6) ∧ ((0 ≤ x232.toInt ∧ x232.toInt < (J 3 1).toInt) ∧ 0 ≤ x234.toInt ∧ 1 ≤ x236.toInt ∧ (16777215 < x234.toInt ∨ 999 < x236.toInt))) ∨ (r237 = r237 ∧ ((0 ≤ x232.toInt ∧ x232.toInt < (J 3 1).toInt) ∧ 0 ≤ x234.toInt ∧ x234.toInt ≤ 16777215 ∧ 1 ≤ x236.toInt ∧ x236.toInt ≤ 999) ∧ (∃ x x2 : Nat → Int32, SND x (J 101) (fun k => I 6 1 (elt E P 20 k)) (fun k => I 6 3 (elt E P 20 k)) (fun k => I 6 5 (elt E P 20 k)) (CUTP (J 105) (J 106) (J 107) (J 21 2).toInt x232.toInt) (J 118 x232.toNatClampNeg) (J 120 x232.toNatClampNeg) (J 20 2).toInt ∧ SND x2 (J 101) (fun k => I 6 1 (elt E P 20 k)) (fun k => I 6 3 (elt E P 20 k)) (fun k => I 6 5 (elt E P 20 k)) (CUTP (J 105) (J 106) (J 107) (J 21 2).toInt (-1 : Int32).toInt) x236 (J 4 4) (J 20 2).toInt ∧ r237.toInt = ((CNT (fun h => LSP (J 116 x232.toNatClampNeg) (J 110) (J 111) x232.toInt (J 4 5) (J 109) (J 108) x x2 h ∧ HIT (J 110 h) x234) (J 22 2).toInt.toNat : Nat) : Int)))) := hp237
            refine lv_pop hx hb dL_law_1013 rfl ?_
            refine lv_aload_n hx hb dL_law_1014 rfl (lv_at hl 3 rfl) ?_
            refine lv_aload_n hx hb dL_law_1015 rfl (lv_at hl 1 rfl) ?_
            refine lv_iload_n hx hb dL_law_1016 rfl (lv_at hl 0 rfl) ?_
            refine lv_iconst (v := 1) hx hb dL_law_1017 (by decide) ?_
            refine lv_iadd hx hb dL_law_1018 ?_
            refine lv_topi (fun x238 (e238 : x238 = i + 1) => ?_)
            try have t238 : x238.toInt = i.toInt + 1 := tadd e238 rfl kp1 (by omega)
            have hin : vp_in x238 Lx := tin rfl (by omega)
            refine va_sld hx hb hX hbl hbA hW.2.2.1 hin dL_law_1019 ?_
            refine lv_as x232 (by rw [e232, e231, e238]) ?_
            refine lv_aload_n hx hb dL_law_1020 rfl (lv_at hl 1 rfl) ?_
            refine lv_iload_n hx hb dL_law_1021 rfl (lv_at hl 0 rfl) ?_
            refine lv_iconst (v := 2) hx hb dL_law_1022 (by decide) ?_
            refine lv_iadd hx hb dL_law_1023 ?_
            refine lv_topi (fun x239 (e239 : x239 = i + 2) => ?_)
            try have t239 : x239.toInt = i.toInt + 2 := tadd e239 rfl kp2 (by omega)
            have hin : vp_in x239 Lx := tin rfl (by omega)
            refine va_sld hx hb hX hbl hbA hW.2.2.1 hin dL_law_1024 ?_
            refine lv_as x234 (by rw [e234, e233, e239]) ?_
            refine lv_aload_n hx hb dL_law_1025 rfl (lv_at hl 1 rfl) ?_
            refine lv_iload_n hx hb dL_law_1026 rfl (lv_at hl 0 rfl) ?_
            refine lv_iconst (v := 3) hx hb dL_law_1027 (by decide) ?_
            refine lv_iadd hx hb dL_law_1028 ?_
            refine lv_topi (fun x240 (e240 : x240 = i + 3) => ?_)
            try have t240 : x240.toInt = i.toInt + 3 := tadd e240 rfl kp3 (by omega)
            have hin : vp_in x240 Lx := tin rfl (by omega)
            refine va_sld hx hb hX hbl hbA hW.2.2.1 hin dL_law_1029 ?_
            refine lv_as x236 (by rw [e236, e235, e240]) ?_
            refine ci2_ C (WB_R hW) (runV (x := g.2.2.1 13) (As := [.int x232, .int x234, .int x236]) (rest := []) (T := (((hv J [42] [] u237.1), (hv L [47] [] u237.2.1), (hv I [] [(6, 6), (6, 7)] u237.2.2), P, E, N), sgM g)) C (WB_R hW) (c_X12_covers_e l g (hv J [42] [] u237.1) (hv L [47] [] u237.2.1) (hv I [] [(6, 6), (6, 7)] u237.2.2) P E N H.size x232 x234 x236 hwm) mi_X12_covers tw_1475 (recv_ (T := (((hv J [42] [] u237.1), (hv L [47] [] u237.2.1), (hv I [] [(6, 6), (6, 7)] u237.2.2), P, E, N), sgM g)) C (WB_R hW) (mm_ rfl) rfl rfl) ⟨rfl, rfl, Nat.le_of_ble_eq_true rfl, Nat.le_of_ble_eq_true rfl⟩ rfl hl.1 rfl (Nat.le_of_ble_eq_true rfl) dL_law_1030 ⟨by show 1000 + 10 * k + 0 + 0 ≤ 600000; omega, by show 200000 + 20100 * k + 0 + 0 ≤ 7302250; omega⟩) (fun r241 u241 H locs hp241 hB hk hS => ?_)
            have hW : WB g A s.heap H locs ((hv (hv J [42] [] u237.1) [100, 146, 165, 166] [] u241), (hv L [47] [] u237.2.1), (hv I [] [(6, 6), (6, 7)] u237.2.2), P, E, N) ((sgX g ++ dy) ++ sgM g) := joinR hW hB hk hS (frsub C (WB_R hW)) (fun x hx => cel_x (hv_x rfl rfl (notm hW x hx)))
            refine lv_pop hx hb dL_law_1033 rfl ?_
            refine lv_goto (tgt := 1389) hx hb dL_law_1034 (by decide) ?_
            obtain ⟨x242, e242⟩ : ∃ y : Int32, y = i + 5 := ⟨_, rfl⟩
            refine lv_iinc (v := x242) (lv' := [(3, .int x242), (0, .ref b), (1, .ref (g.2.2.1 12)), (2, .ref (g.2.2.1 13))]) hx hb dL_law_1389 hl (k := 0) rfl (by rw [e242]; rfl) (by decide) rfl (fun ls hl => ?_)
            try have t242 : x242.toInt = i.toInt + 5 := tadd e242 rfl kp5 (by omega)
            refine lv_goto (tgt := 18) hx hb dL_law_1392 (by decide) ?_
            refine W.widen (k := 1000 + 10 * (k + 1)) (n := 200000 + 20100 * (k + 1)) (by omega) (by omega) ?_
            exact ih (k + 1) x242 (hv (hv J [42] [] u237.1) [100, 146, 165, 166] [] u241) (hv L [47] [] u237.2.1) (hv I [] [(6, 6), (6, 7)] u237.2.2) P E N dy H locs ls (by omega) (by omega) (by omega) hwf hwm hnow hrl hac hrel0 hrel1 hrel2 hrel3 hrel4 hrel5 hrel6 hrel7 hrel8 hrel9 hrel10 hrel11 hrel12 hrel13 hrel14 hrel15 hrel16 hrel17 hrel18 hrel19 hrel20 hrel21 hrel22 hrel23 hrel24 hrel25 hrel26 hrel27 hrel28 hrel29 hrel30 (tol_s (a := J 13 49) (k := k) hk64 (Or.inl rfl) hrel31) hrel32 hrel33 hrel34 hrel35 hrel36 hrel37 hrel38 hrel39 hrel40 hrel41 hrel42 hrel43 hrel44 hW (lv_sub hl [0, 1, 2, 3] rfl)
          · refine lv_tableIn (off := 1005) (tgt := 1037) hx hb dL_law_32 (Int.not_lt.mpr c6) (Int.not_lt.mpr c6b) (by rw [c6k]; rfl) (by decide) ?_
            refine lv_aload_n hx hb dL_law_1037 rfl (lv_at hl 2 rfl) ?_
            refine lv_aload_n hx hb dL_law_1038 rfl (lv_at hl 1 rfl) ?_
            refine lv_iload_n hx hb dL_law_1039 rfl (lv_at hl 0 rfl) ?_
            refine lv_iconst (v := 1) hx hb dL_law_1040 (by decide) ?_
            refine lv_iadd hx hb dL_law_1041 ?_
            refine lv_topi (fun x243 (e243 : x243 = i + 1) => ?_)
            try have t243 : x243.toInt = i.toInt + 1 := tadd e243 rfl kp1 (by omega)
            have hin : vp_in x243 Lx := tin rfl (by omega)
            refine va_sld hx hb hX hbl hbA hW.2.2.1 hin dL_law_1042 ?_
            refine lv_topi (fun x244 (e244 : x244 = xs x243.toNatClampNeg) => ?_)
            refine lv_aload_n hx hb dL_law_1043 rfl (lv_at hl 1 rfl) ?_
            refine lv_iload_n hx hb dL_law_1044 rfl (lv_at hl 0 rfl) ?_
            refine lv_iconst (v := 2) hx hb dL_law_1045 (by decide) ?_
            refine lv_iadd hx hb dL_law_1046 ?_
            refine lv_topi (fun x245 (e245 : x245 = i + 2) => ?_)
            try have t245 : x245.toInt = i.toInt + 2 := tadd e245 rfl kp2 (by omega)
            have hin : vp_in x245 Lx := tin rfl (by omega)
            refine va_sld hx hb hX hbl hbA hW.2.2.1 hin dL_law_1047 ?_
            refine lv_topi (fun x246 (e246 : x246 = xs x245.toNatClampNeg) => ?_)
            refine lv_aload_n hx hb dL_law_1048 rfl (lv_at hl 1 rfl) ?_
            refine lv_iload_n hx hb dL_law_1049 rfl (lv_at hl 0 rfl) ?_
            refine lv_iconst (v := 3) hx hb dL_law_1050 (by decide) ?_
            refine lv_iadd hx hb dL_law_1051 ?_
            refine lv_topi (fun x247 (e247 : x247 = i + 3) => ?_)
            try have t247 : x247.toInt = i.toInt + 3 := tadd e247 rfl kp3 (by omega)
            have hin : vp_in x247 Lx := tin rfl (by omega)
            refine va_sld hx hb hX hbl hbA hW.2.2.1 hin dL_law_1052 ?_
            refine lv_topi (fun x248 (e248 : x248 = xs x247.toNatClampNeg) => ?_)
            refine ci2_ C (WB_L hW) (runV (x := g.2.2.1 12) (As := [.int x244, .int x246, .int x248]) (rest := []) (T := ((J, L, I, P, E, N), sgX g ++ dy)) C (WB_L hW) (c_X11_rights_e l g J L I P E N dy H.size x244 x246 x248 hwf hrel21 hrel20 hrel27 hrel28 hrel9 hnow.2.1 (by have h9 := hwm.1.2.2.2.2.1; have h8 := hrel12; omega) (tmr_cdb hrel16) ⟨hnow.1, hnow.2.1⟩) mi_X11_rights tw_923 (recv_ (T := ((J, L, I, P, E, N), sgX g ++ dy)) C (WB_L hW) (mx_ rfl) rfl rfl) ⟨rfl, rfl, Nat.le_of_ble_eq_true rfl, Nat.le_of_ble_eq_true rfl⟩ rfl hl.1 rfl (Nat.le_of_ble_eq_true rfl) dL_law_1053 ⟨by show 1000 + 10 * k + 0 ≤ 600000; omega, by show 200000 + 20100 * k + 0 ≤ 7302250; omega⟩) (fun r249 u249 H locs hp249 hB hk hS => ?_)
            have hW : WB g A s.heap H locs ((hv J [42, 45] [(4, 6), (4, 7), (8, 1), (8, 2), (8, 3), (8, 4), (8, 5), (8, 6), (8, 7), (8, 8), (8, 9)] u249.1), (hv L [47] [] u249.2.1), (hv I [] [(6, 6), (6, 7)] u249.2.2), P, E, N) ((sgX g ++ dy) ++ sgM g) := joinL hW hB hk hS (frsub C (WB_L hW)) (okM hW (fun r h => hv_m (J := J) (R := [42, 45]) (F := [(4, 6), (4, 7), (8, 1), (8, 2), (8, 3), (8, 4), (8, 5), (8, 6), (8, 7), (8, 8), (8, 9)]) rfl rfl h) (fun r h => hv_m (J := L) (R := [47]) (F := []) rfl rfl h))
            have hc249 : ((r249.toInt = (-1) ∧ (¬ (0 ≤ x244.toInt ∧ x244.toInt < (J 3 1).toInt))) ∨ (r249.toInt = (-4) ∧ ((0 ≤ x244.toInt ∧ x244.toInt < (J 3 1).toInt) ∧ (x246.toInt < 0 ∨ x248.toInt < 1))) ∨ (r249.toInt = (-6) ∧ ((0 ≤ x244.toInt ∧ x244.toInt < (J 3 1).toInt) ∧ 0 ≤ x246.toInt ∧ 1 ≤ x248.toInt ∧ (16777215 < x246.toInt ∨ 999 < x248.toInt))) ∨ (r249.toInt = (-6) ∧ ((0 ≤ x244.toInt ∧ x244.toInt < (J 3 1).toInt) ∧ 0 ≤ x246.toInt ∧ x246.toInt ≤ 16777215 ∧ 1 ≤ x248.toInt ∧ x248.toInt ≤ 999 ∧ 12 < (CB (tN x246) 24 : Int))) ∨ (r249 = r249 ∧ ((0 ≤ x244.toInt ∧ x244.toInt < (J 3 1).toInt) ∧ 0 ≤ x246.toInt ∧ x246.toInt ≤ 16777215 ∧ 1 ≤ x248.toInt ∧ x248.toInt ≤ 999 ∧ (CB (tN x246) 24 : Int) ≤ 12) ∧ (∃ (w : Int32) (x x2 : Nat → Int32), WIF I P E N (J 25 2).toInt 2 x244.toInt (fun s m9 => SCL (J 116 x244.toNatClampNeg) (hrw x244.toInt) (J 118 x244.toNatClampNeg) s m9 (J 120 x244.toNatClampNeg) (J 3 1 - x244) (J 22 2)) (TLY (fun x => SND x (J 101) (fun k => I 6 1 (elt E P 20 k)) (fun k => I 6 3 (elt E P 20 k)) (fun k => I 6 5 (elt E P 20 k)) (CUTP (J 105) (J 106) (J 107) (J 21 2).toInt x244.toInt) (J 118 x244.toNatClampNeg) (J 120 x244.toNatClampNeg) (J 20 2).toInt) (J 116 x244.toNatClampNeg) (fun x => HF (J 116 x244.toNatClampNeg) (J 110) (J 111) x244.toInt (J 4 5) (J 109) (J 108) x) (J 22 2).toInt.toNat) w ∧ SND x (J 101) (fun k => I 6 1 (elt E P 20 k)) (fun k => I 6 3 (elt E P 20 k)) (fun k => I 6 5 (elt E P 20 k)) (CUTP (J 105) (J 106) (J 107) (J 21 2).toInt x244.toInt) (J 118 x244.toNatClampNeg) (J 120 x244.toNatClampNeg) (J 20 2).toInt ∧ SND x2 (J 101) (fun k => I 6 1 (elt E P 20 k)) (fun k => I 6 3 (elt E P 20 k)) (fun k => I 6 5 (elt E P 20 k)) (CUTP (J 105) (J 106) (J 107) (J 21 2).toInt (-1 : Int32).toInt) x248 (J 4 4) (J 20 2).toInt ∧ ((¬ w.toInt ≤ ((CNT (fun h => LSP (J 116 x244.toNatClampNeg) (J 110) (J 111) x244.toInt (J 4 5) (J 109) (J 108) x x2 h ∧ HIT (J 110 h) x246) (J 22 2).toInt.toNat : Nat) : Int) ∧ r249.toInt = -9) ∨ (w.toInt ≤ ((CNT (fun h => LSP (J 116 x244.toNatClampNeg) (J 110) (J 111) x244.toInt (J 4 5) (J 109) (J 108) x x2 h ∧ HIT (J 110 h) x246) (J 22 2).toInt.toNat : Nat) : Int) ∧ r249.toInt = (BSF (fun t => w.toInt ≤ ((CNT (fun h => LSP (J 116 x244.toNatClampNeg) (J 110) (J 111) x244.toInt (J 4 5) (J 109) (J 108) x x2 h ∧ HIT (J 110 h) (SQ x246 t)) (J 22 2).toInt.toNat : Nat) : Int)) (fun t => CB (tN (SQ x246 t)) 32) (fun t => (SQ x246 t).toInt) (2 ^ CB (tN x246) 24)).1))))) := hp249
            refine lv_pop hx hb dL_law_1056 rfl ?_
            refine lv_aload_n hx hb dL_law_1057 rfl (lv_at hl 3 rfl) ?_
            refine lv_aload_n hx hb dL_law_1058 rfl (lv_at hl 1 rfl) ?_
            refine lv_iload_n hx hb dL_law_1059 rfl (lv_at hl 0 rfl) ?_
            refine lv_iconst (v := 1) hx hb dL_law_1060 (by decide) ?_
            refine lv_iadd hx hb dL_law_1061 ?_
            refine lv_topi (fun x250 (e250 : x250 = i + 1) => ?_)
            try have t250 : x250.toInt = i.toInt + 1 := tadd e250 rfl kp1 (by omega)
            have hin : vp_in x250 Lx := tin rfl (by omega)
            refine va_sld hx hb hX hbl hbA hW.2.2.1 hin dL_law_1062 ?_
            refine lv_as x244 (by rw [e244, e243, e250]) ?_
            refine lv_aload_n hx hb dL_law_1063 rfl (lv_at hl 1 rfl) ?_
            refine lv_iload_n hx hb dL_law_1064 rfl (lv_at hl 0 rfl) ?_
            refine lv_iconst (v := 2) hx hb dL_law_1065 (by decide) ?_
            refine lv_iadd hx hb dL_law_1066 ?_
            refine lv_topi (fun x251 (e251 : x251 = i + 2) => ?_)
            try have t251 : x251.toInt = i.toInt + 2 := tadd e251 rfl kp2 (by omega)
            have hin : vp_in x251 Lx := tin rfl (by omega)
            refine va_sld hx hb hX hbl hbA hW.2.2.1 hin dL_law_1067 ?_
            refine lv_as x246 (by rw [e246, e245, e251]) ?_
            refine lv_aload_n hx hb dL_law_1068 rfl (lv_at hl 1 rfl) ?_
            refine lv_iload_n hx hb dL_law_1069 rfl (lv_at hl 0 rfl) ?_
            refine lv_iconst (v := 3) hx hb dL_law_1070 (by decide) ?_
            refine lv_iadd hx hb dL_law_1071 ?_
            refine lv_topi (fun x252 (e252 : x252 = i + 3) => ?_)
            try have t252 : x252.toInt = i.toInt + 3 := tadd e252 rfl kp3 (by omega)
            have hin : vp_in x252 Lx := tin rfl (by omega)
            refine va_sld hx hb hX hbl hbA hW.2.2.1 hin dL_law_1072 ?_
            refine lv_as x248 (by rw [e248, e247, e252]) ?_
            refine ci2_ C (WB_R hW) (runV (x := g.2.2.1 13) (As := [.int x244, .int x246, .int x248]) (rest := []) (T := (((hv J [42, 45] [(4, 6), (4, 7), (8, 1), (8, 2), (8, 3), (8, 4), (8, 5), (8, 6), (8, 7), (8, 8), (8, 9)] u249.1), (hv L [47] [] u249.2.1), (hv I [] [(6, 6), (6, 7)] u249.2.2), P, E, N), sgM g)) C (WB_R hW) (c_X12_rights_e l g (hv J [42, 45] [(4, 6), (4, 7), (8, 1), (8, 2), (8, 3), (8, 4), (8, 5), (8, 6), (8, 7), (8, 8), (8, 9)] u249.1) (hv L [47] [] u249.2.1) (hv I [] [(6, 6), (6, 7)] u249.2.2) P E N H.size x244 x246 x248 hwm hrel32) mi_X12_rights tw_1491 (recv_ (T := (((hv J [42, 45] [(4, 6), (4, 7), (8, 1), (8, 2), (8, 3), (8, 4), (8, 5), (8, 6), (8, 7), (8, 8), (8, 9)] u249.1), (hv L [47] [] u249.2.1), (hv I [] [(6, 6), (6, 7)] u249.2.2), P, E, N), sgM g)) C (WB_R hW) (mm_ rfl) rfl rfl) ⟨rfl, rfl, Nat.le_of_ble_eq_true rfl, Nat.le_of_ble_eq_true rfl⟩ rfl hl.1 rfl (Nat.le_of_ble_eq_true rfl) dL_law_1073 ⟨by show 1000 + 10 * k + 0 + 0 ≤ 600000; omega, by show 200000 + 20100 * k + 0 + 0 ≤ 7302250; omega⟩) (fun r253 u253 H locs hp253 hB hk hS => ?_)
            have hW : WB g A s.heap H locs ((hv (hv J [42, 45] [(4, 6), (4, 7), (8, 1), (8, 2), (8, 3), (8, 4), (8, 5), (8, 6), (8, 7), (8, 8), (8, 9)] u249.1) [100, 146, 150, 151, 152, 154, 165, 166, 167] [(13, 47), (13, 48), (13, 56), (13, 57), (13, 58), (13, 59), (13, 60), (13, 68)] u253), (hv L [47] [] u249.2.1), (hv I [] [(6, 6), (6, 7)] u249.2.2), P, E, N) ((sgX g ++ dy) ++ sgM g) := joinR hW hB hk hS (frsub C (WB_R hW)) (fun x hx => cel_x (hv_x rfl rfl (notm hW x hx)))
            obtain ⟨hc253, hf253_0⟩ : ((r253.toInt = (-1) ∧ (¬ (0 ≤ x244.toInt ∧ x244.toInt < (J 13 31).toInt))) ∨ (r253.toInt = (-4) ∧ ((0 ≤ x244.toInt ∧ x244.toInt < (J 13 31).toInt) ∧ (x246.toInt < 0 ∨ x248.toInt < 1))) ∨ (r253.toInt = (-6) ∧ ((0 ≤ x244.toInt ∧ x244.toInt < (J 13 31).toInt) ∧ 0 ≤ x246.toInt ∧ 1 ≤ x248.toInt ∧ (16777215 < x246.toInt ∨ 999 < x248.toInt))) ∨ (r253.toInt = (-6) ∧ ((0 ≤ x244.toInt ∧ x244.toInt < (J 13 31).toInt) ∧ 0 ≤ x246.toInt ∧ x246.toInt ≤ 16777215 ∧ 1 ≤ x248.toInt ∧ x248.toInt ≤ 999 ∧ 12 < (CB (tN x246) 24 : Int))) ∨ (r253 = r253 ∧ ((0 ≤ x244.toInt ∧ x244.toInt < (J 13 31).toInt) ∧ 0 ≤ x246.toInt ∧ x246.toInt ≤ 16777215 ∧ 1 ≤ x248.toInt ∧ x248.toInt ≤ 999 ∧ (CB (tN x246) 24 : Int) ≤ 12) ∧ (∃ (w : Int32) (y y2 : Nat → Int32), (∃ s o d : Int32, ((J 116 x244.toNatClampNeg).toInt = 6 → s.toInt = 0 ∧ o.toInt = 0) ∧ (¬ (J 116 x244.toNatClampNeg).toInt = 6 → CAV (hv J [42, 45] [(4, 6), (4, 7), (8, 1), (8, 2), (8, 3), (8, 4), (8, 5), (8, 6), (8, 7), (8, 8), (8, 9)] u249.1) x244.toNatClampNeg s.toInt o.toInt) ∧ ((¬ (2 : Int) = 2 → d.toInt = 0) ∧ ((2 : Int) = 2 → d = o)) ∧ WVM (J 121) (J 122) (J 123) (J 124) (SCL (J 116 x244.toNatClampNeg) (hrw x244.toInt) (J 118 x244.toNatClampNeg) s o (J 120 x244.toNatClampNeg) (J 13 31 - x244) (J 13 35)) (J 13 40).toInt 2 x244.toInt d w) ∧ (¬ (J 116 x244.toNatClampNeg).toInt = 6 → SND y (J 101) (J 102) (J 103) (J 104) (fun k => 0 ≤ x244.toInt ∧ CUTP (J 105) (J 106) (J 107) (J 13 34).toInt x244.toInt k) (J 118 x244.toNatClampNeg) (J 120 x244.toNatClampNeg) (J 13 32).toInt) ∧ SND y2 (J 101) (J 102) (J 103) (J 104) (fun k => 0 ≤ (-1 : Int32).toInt ∧ CUTP (J 105) (J 106) (J 107) (J 13 34).toInt (-1 : Int32).toInt k) x248 (J 13 33) (J 13 32).toInt ∧ ((¬ w.toInt ≤ ((CNT (fun h => LSM (J 116 x244.toNatClampNeg) (J 110) (J 111) x244.toInt (J 13 36) (J 109) (J 108) y y2 h ∧ ¬ (J 110 h &&& x246).toInt = 0) (J 13 35).toInt.toNat : Nat) : Int) ∧ r253.toInt = -9) ∨ (w.toInt ≤ ((CNT (fun h => LSM (J 116 x244.toNatClampNeg) (J 110) (J 111) x244.toInt (J 13 36) (J 109) (J 108) y y2 h ∧ ¬ (J 110 h &&& x246).toInt = 0) (J 13 35).toInt.toNat : Nat) : Int) ∧ r253.toInt = (BSF (fun t => w.toInt ≤ ((CNT (fun h => LSM (J 116 x244.toNatClampNeg) (J 110) (J 111) x244.toInt (J 13 36) (J 109) (J 108) y y2 h ∧ ¬ (J 110 h &&& (SQ x246 t)).toInt = 0) (J 13 35).toInt.toNat : Nat) : Int)) (fun t => CB (tN (SQ x246 t)) 32) (fun t => (SQ x246 t).toInt) (2 ^ CB (tN x246) 24)).1))))) ∧ (CAC (hv (hv J [42, 45] [(4, 6), (4, 7), (8, 1), (8, 2), (8, 3), (8, 4), (8, 5), (8, 6), (8, 7), (8, 8), (8, 9)] u249.1) [100, 146, 150, 151, 152, 154, 165, 166, 167] [(13, 47), (13, 48), (13, 56), (13, 57), (13, 58), (13, 59), (13, 60), (13, 68)] u253)) := hp253
            refine lv_pop hx hb dL_law_1076 rfl ?_
            refine lv_goto (tgt := 1389) hx hb dL_law_1077 (by decide) ?_
            obtain ⟨x254, e254⟩ : ∃ y : Int32, y = i + 5 := ⟨_, rfl⟩
            refine lv_iinc (v := x254) (lv' := [(3, .int x254), (0, .ref b), (1, .ref (g.2.2.1 12)), (2, .ref (g.2.2.1 13))]) hx hb dL_law_1389 hl (k := 0) rfl (by rw [e254]; rfl) (by decide) rfl (fun ls hl => ?_)
            try have t254 : x254.toInt = i.toInt + 5 := tadd e254 rfl kp5 (by omega)
            refine lv_goto (tgt := 18) hx hb dL_law_1392 (by decide) ?_
            refine W.widen (k := 1000 + 10 * (k + 1)) (n := 200000 + 20100 * (k + 1)) (by omega) (by omega) ?_
            obtain hnew32 := rel_rights k g J I P E N dy r249 x244 x246 x248 x2 r253 u249 u253 hk64 hwf0 hwm0 hnow0 hrl0 hac0 hrel0 hrel1 hrel2 hrel3 hrel4 hrel5 hrel6 hrel7 hrel8 hrel9 hrel10 hrel11 hrel12 hrel13 hrel14 hrel15 hrel16 hrel17 hrel18 hrel19 hrel20 hrel21 hrel22 hrel23 hrel24 hrel25 hrel26 hrel27 hrel28 hrel29 hrel30 hrel31 hrel32 hrel33 hrel34 hrel35 hrel36 hrel37 hrel38 hrel39 hrel40 hrel41 hrel42 hrel43 hrel44 hc249 hc253 hf253_0
            exact ih (k + 1) x254 (hv (hv J [42, 45] [(4, 6), (4, 7), (8, 1), (8, 2), (8, 3), (8, 4), (8, 5), (8, 6), (8, 7), (8, 8), (8, 9)] u249.1) [100, 146, 150, 151, 152, 154, 165, 166, 167] [(13, 47), (13, 48), (13, 56), (13, 57), (13, 58), (13, 59), (13, 60), (13, 68)] u253) (hv L [47] [] u249.2.1) (hv I [] [(6, 6), (6, 7)] u249.2.2) P E N dy H locs ls (by omega) (by omega) (by omega) hwf hwm hnow hrl hac hrel0 hrel1 hrel2 hrel3 hrel4 hrel5 hrel6 hrel7 hrel8 hrel9 hrel10 hrel11 hrel12 hrel13 hrel14 hrel15 hrel16 hrel17 hrel18 hrel19 hrel20 hrel21 hrel22 hrel23 hrel24 hrel25 hrel26 hrel27 hrel28 hrel29 hrel30 (tol_s (a := J 13 49) (k := k) hk64 (Or.inl rfl) hrel31) hnew32 hrel33 hrel34 hrel35 hrel36 hrel37 hrel38 hrel39 hrel40 hrel41 hrel42 hrel43 hrel44 hW (lv_sub hl [0, 1, 2, 3] rfl)
          · refine lv_tableIn (off := 1048) (tgt := 1080) hx hb dL_law_32 (Int.not_lt.mpr c6) (Int.not_lt.mpr c6b) (by rw [c6k]; rfl) (by decide) ?_
            refine lv_aload_n hx hb dL_law_1080 rfl (lv_at hl 2 rfl) ?_
            refine lv_aload_n hx hb dL_law_1081 rfl (lv_at hl 1 rfl) ?_
            refine lv_iload_n hx hb dL_law_1082 rfl (lv_at hl 0 rfl) ?_
            refine lv_iconst (v := 1) hx hb dL_law_1083 (by decide) ?_
            refine lv_iadd hx hb dL_law_1084 ?_
            refine lv_topi (fun x255 (e255 : x255 = i + 1) => ?_)
            try have t255 : x255.toInt = i.toInt + 1 := tadd e255 rfl kp1 (by omega)
            have hin : vp_in x255 Lx := tin rfl (by omega)
            refine va_sld hx hb hX hbl hbA hW.2.2.1 hin dL_law_1085 ?_
            refine lv_topi (fun x256 (e256 : x256 = xs x255.toNatClampNeg) => ?_)
            refine lv_if_eq (tgt := 1093) hx hb dL_law_1086 (by decide) (fun c257 => ?_) (fun c257 => ?_)
            · have c257 : x256.toInt = 0 := teq rfl kp0 c257
              refine lv_iconst (v := 0) hx hb dL_law_1093 (by decide) ?_
              refine ci2_ C (WB_L hW) (runV (x := g.2.2.1 12) (As := [.int 0]) (rest := []) (T := ((J, L, I, P, E, N), sgX g ++ dy)) C (WB_L hW) (c_X11_news_e l g J L I P E N dy H.size (0 : Int32) hwf) mi_X11_news tw_933 (recv_ (T := ((J, L, I, P, E, N), sgX g ++ dy)) C (WB_L hW) (mx_ rfl) rfl rfl) ⟨rfl, rfl, Nat.le_of_ble_eq_true rfl, Nat.le_of_ble_eq_true rfl⟩ rfl hl.1 rfl (Nat.le_of_ble_eq_true rfl) dL_law_1094 ⟨by show 1000 + 10 * k + 10 ≤ 600000; omega, by show 200000 + 20100 * k + 20100 ≤ 7302250; omega⟩) (fun r258 u258 H locs hp258 hB hk hS => ?_)
              have hW : WB g A s.heap H locs ((hv J [42] [(26, 0), (26, 2)] u258.1), L, (hv I [5] [] u258.2.1), (hv P [5, 36] [] u258.2.2.1), (hv1 E [26] u258.2.2.2.1), u258.2.2.2.2.1) ((sgX g ++ u258.2.2.2.2.2) ++ sgM g) := joinL hW hB hk hS (frsub C (WB_L hW)) (okM hW (fun r h => hv_m (J := J) (R := [42]) (F := [(26, 0), (26, 2)]) rfl rfl h) (fun r h => rfl))
              obtain ⟨hc258, hwf, hdd258, hf258_0⟩ := hp258
              refine lv_pop hx hb dL_law_1097 rfl ?_
              refine lv_aload_n hx hb dL_law_1098 rfl (lv_at hl 3 rfl) ?_
              refine lv_aload_n hx hb dL_law_1099 rfl (lv_at hl 1 rfl) ?_
              refine lv_iload_n hx hb dL_law_1100 rfl (lv_at hl 0 rfl) ?_
              refine lv_iconst (v := 1) hx hb dL_law_1101 (by decide) ?_
              refine lv_iadd hx hb dL_law_1102 ?_
              refine lv_topi (fun x259 (e259 : x259 = i + 1) => ?_)
              try have t259 : x259.toInt = i.toInt + 1 := tadd e259 rfl kp1 (by omega)
              have hin : vp_in x259 Lx := tin rfl (by omega)
              refine va_sld hx hb hX hbl hbA hW.2.2.1 hin dL_law_1103 ?_
              refine lv_as x256 (by rw [e256, e255, e259]) ?_
              refine lv_if_eq (tgt := 1111) hx hb dL_law_1104 (by decide) (fun c260 => ?_) (fun c260 => ?_)
              · have c260 : x256.toInt = 0 := teq rfl kp0 c260
                refine lv_iconst (v := 0) hx hb dL_law_1111 (by decide) ?_
                refine ci2_ C (WB_R hW) (runV (x := g.2.2.1 13) (As := [.int 0]) (rest := []) (T := (((hv J [42] [(26, 0), (26, 2)] u258.1), L, (hv I [5] [] u258.2.1), (hv P [5, 36] [] u258.2.2.1), (hv1 E [26] u258.2.2.2.1), u258.2.2.2.2.1), sgM g)) C (WB_R hW) (c_X12_news_e l g (hv J [42] [(26, 0), (26, 2)] u258.1) L (hv I [5] [] u258.2.1) (hv P [5, 36] [] u258.2.2.1) (hv1 E [26] u258.2.2.2.1) u258.2.2.2.2.1 H.size (0 : Int32) hwm) mi_X12_news tw_1503 (recv_ (T := (((hv J [42] [(26, 0), (26, 2)] u258.1), L, (hv I [5] [] u258.2.1), (hv P [5, 36] [] u258.2.2.1), (hv1 E [26] u258.2.2.2.1), u258.2.2.2.2.1), sgM g)) C (WB_R hW) (mm_ rfl) rfl rfl) ⟨rfl, rfl, Nat.le_of_ble_eq_true rfl, Nat.le_of_ble_eq_true rfl⟩ rfl hl.1 rfl (Nat.le_of_ble_eq_true rfl) dL_law_1112 ⟨by show 1000 + 10 * k + 10 + 0 ≤ 600000; omega, by show 200000 + 20100 * k + 20100 + 0 ≤ 7302250; omega⟩) (fun r261 u261 H locs hp261 hB hk hS => ?_)
                have hW : WB g A s.heap H locs ((hv (hv J [42] [(26, 0), (26, 2)] u258.1) [100, 127, 128] [(13, 42)] u261), L, (hv I [5] [] u258.2.1), (hv P [5, 36] [] u258.2.2.1), (hv1 E [26] u258.2.2.2.1), u258.2.2.2.2.1) ((sgX g ++ u258.2.2.2.2.2) ++ sgM g) := joinR hW hB hk hS (frsub C (WB_R hW)) (fun x hx => cel_x (hv_x rfl rfl (notm hW x hx)))
                obtain ⟨hwm, hc261⟩ : WM (hv (hv J [42] [(26, 0), (26, 2)] u258.1) [100, 127, 128] [(13, 42)] u261) ∧ ((r261.toInt = (-6) ∧ ((J 13 42).toInt = 40) ∧ u261 13 42 = J 13 42 ∧ u261 127 = J 127 ∧ u261 128 = J 128) ∨ (r261.toInt = (J 13 42).toInt ∧ ((J 13 42).toInt ≤ 39) ∧ (u261 13 42).toInt = (J 13 42).toInt + 1 ∧ u261 127 = up2 J 127 (J 13 42).toNatClampNeg (J 13 31) 127 ∧ u261 128 = up2 J 128 (J 13 42).toNatClampNeg (-9) 128)) := hp261
                refine lv_pop hx hb dL_law_1115 rfl ?_
                refine lv_goto (tgt := 1389) hx hb dL_law_1116 (by decide) ?_
                obtain ⟨x262, e262⟩ : ∃ y : Int32, y = i + 5 := ⟨_, rfl⟩
                refine lv_iinc (v := x262) (lv' := [(3, .int x262), (0, .ref b), (1, .ref (g.2.2.1 12)), (2, .ref (g.2.2.1 13))]) hx hb dL_law_1389 hl (k := 0) rfl (by rw [e262]; rfl) (by decide) rfl (fun ls hl => ?_)
                try have t262 : x262.toInt = i.toInt + 5 := tadd e262 rfl kp5 (by omega)
                refine lv_goto (tgt := 18) hx hb dL_law_1392 (by decide) ?_
                refine W.widen (k := 1000 + 10 * (k + 1)) (n := 200000 + 20100 * (k + 1)) (by omega) (by omega) ?_
                obtain ⟨hnew10, hnew16, hnew33⟩ := rel_news k g J I P E N dy r258 u258 r261 u261 hk64 hwf0 hwm0 hnow0 hrl0 hac0 hrel0 hrel1 hrel2 hrel3 hrel4 hrel5 hrel6 hrel7 hrel8 hrel9 hrel10 hrel11 hrel12 hrel13 hrel14 hrel15 hrel16 hrel17 hrel18 hrel19 hrel20 hrel21 hrel22 hrel23 hrel24 hrel25 hrel26 hrel27 hrel28 hrel29 hrel30 hrel31 hrel32 hrel33 hrel34 hrel35 hrel36 hrel37 hrel38 hrel39 hrel40 hrel41 hrel42 hrel43 hrel44 hc258 hf258_0 hc261
                exact ih (k + 1) x262 (hv (hv J [42] [(26, 0), (26, 2)] u258.1) [100, 127, 128] [(13, 42)] u261) L (hv I [5] [] u258.2.1) (hv P [5, 36] [] u258.2.2.1) (hv1 E [26] u258.2.2.2.1) u258.2.2.2.2.1 u258.2.2.2.2.2 H locs ls (by omega) (by omega) (by omega) hwf hwm hnow hrl hac hrel0 hrel1 hrel2 hrel3 hrel4 hrel5 hrel6 hrel7 hrel8 hrel9 hnew10 hrel11 hrel12 hrel13 hrel14 hrel15 hnew16 hrel17 hrel18 hrel19 hrel20 hrel21 hrel22 hrel23 hrel24 hrel25 hrel26 hrel27 hrel28 hrel29 hrel30 (tol_s (a := J 13 49) (k := k) hk64 (Or.inl rfl) hrel31) hrel32 hnew33 hrel34 hrel35 hrel36 hrel37 hrel38 hrel39 hrel40 hrel41 hrel42 hrel43 hrel44 hW (lv_sub hl [0, 1, 2, 3] rfl)
              · have c260 : ¬ x256.toInt = 0 := tne rfl kp0 c260
                exfalso; omega
            · have c257 : ¬ x256.toInt = 0 := tne rfl kp0 c257
              refine lv_iconst (v := 1) hx hb dL_law_1089 (by decide) ?_
              refine lv_goto (tgt := 1094) hx hb dL_law_1090 (by decide) ?_
              refine ci2_ C (WB_L hW) (runV (x := g.2.2.1 12) (As := [.int 1]) (rest := []) (T := ((J, L, I, P, E, N), sgX g ++ dy)) C (WB_L hW) (c_X11_news_e l g J L I P E N dy H.size (1 : Int32) hwf) mi_X11_news tw_933 (recv_ (T := ((J, L, I, P, E, N), sgX g ++ dy)) C (WB_L hW) (mx_ rfl) rfl rfl) ⟨rfl, rfl, Nat.le_of_ble_eq_true rfl, Nat.le_of_ble_eq_true rfl⟩ rfl hl.1 rfl (Nat.le_of_ble_eq_true rfl) dL_law_1094 ⟨by show 1000 + 10 * k + 10 ≤ 600000; omega, by show 200000 + 20100 * k + 20100 ≤ 7302250; omega⟩) (fun r263 u263 H locs hp263 hB hk hS => ?_)
              have hW : WB g A s.heap H locs ((hv J [42] [(26, 0), (26, 2)] u263.1), L, (hv I [5] [] u263.2.1), (hv P [5, 36] [] u263.2.2.1), (hv1 E [26] u263.2.2.2.1), u263.2.2.2.2.1) ((sgX g ++ u263.2.2.2.2.2) ++ sgM g) := joinL hW hB hk hS (frsub C (WB_L hW)) (okM hW (fun r h => hv_m (J := J) (R := [42]) (F := [(26, 0), (26, 2)]) rfl rfl h) (fun r h => rfl))
              obtain ⟨hc263, hwf, hdd263, hf263_0⟩ := hp263
              refine lv_pop hx hb dL_law_1097 rfl ?_
              refine lv_aload_n hx hb dL_law_1098 rfl (lv_at hl 3 rfl) ?_
              refine lv_aload_n hx hb dL_law_1099 rfl (lv_at hl 1 rfl) ?_
              refine lv_iload_n hx hb dL_law_1100 rfl (lv_at hl 0 rfl) ?_
              refine lv_iconst (v := 1) hx hb dL_law_1101 (by decide) ?_
              refine lv_iadd hx hb dL_law_1102 ?_
              refine lv_topi (fun x264 (e264 : x264 = i + 1) => ?_)
              try have t264 : x264.toInt = i.toInt + 1 := tadd e264 rfl kp1 (by omega)
              have hin : vp_in x264 Lx := tin rfl (by omega)
              refine va_sld hx hb hX hbl hbA hW.2.2.1 hin dL_law_1103 ?_
              refine lv_as x256 (by rw [e256, e255, e264]) ?_
              refine lv_if_eq (tgt := 1111) hx hb dL_law_1104 (by decide) (fun c265 => ?_) (fun c265 => ?_)
              · have c265 : x256.toInt = 0 := teq rfl kp0 c265
                exfalso; omega
              · have c265 : ¬ x256.toInt = 0 := tne rfl kp0 c265
                refine lv_iconst (v := 1) hx hb dL_law_1107 (by decide) ?_
                refine lv_goto (tgt := 1112) hx hb dL_law_1108 (by decide) ?_
                refine ci2_ C (WB_R hW) (runV (x := g.2.2.1 13) (As := [.int 1]) (rest := []) (T := (((hv J [42] [(26, 0), (26, 2)] u263.1), L, (hv I [5] [] u263.2.1), (hv P [5, 36] [] u263.2.2.1), (hv1 E [26] u263.2.2.2.1), u263.2.2.2.2.1), sgM g)) C (WB_R hW) (c_X12_news_e l g (hv J [42] [(26, 0), (26, 2)] u263.1) L (hv I [5] [] u263.2.1) (hv P [5, 36] [] u263.2.2.1) (hv1 E [26] u263.2.2.2.1) u263.2.2.2.2.1 H.size (1 : Int32) hwm) mi_X12_news tw_1503 (recv_ (T := (((hv J [42] [(26, 0), (26, 2)] u263.1), L, (hv I [5] [] u263.2.1), (hv P [5, 36] [] u263.2.2.1), (hv1 E [26] u263.2.2.2.1), u263.2.2.2.2.1), sgM g)) C (WB_R hW) (mm_ rfl) rfl rfl) ⟨rfl, rfl, Nat.le_of_ble_eq_true rfl, Nat.le_of_ble_eq_true rfl⟩ rfl hl.1 rfl (Nat.le_of_ble_eq_true rfl) dL_law_1112 ⟨by show 1000 + 10 * k + 10 + 0 ≤ 600000; omega, by show 200000 + 20100 * k + 20100 + 0 ≤ 7302250; omega⟩) (fun r266 u266 H locs hp266 hB hk hS => ?_)
                have hW : WB g A s.heap H locs ((hv (hv J [42] [(26, 0), (26, 2)] u263.1) [100, 127, 128] [(13, 42)] u266), L, (hv I [5] [] u263.2.1), (hv P [5, 36] [] u263.2.2.1), (hv1 E [26] u263.2.2.2.1), u263.2.2.2.2.1) ((sgX g ++ u263.2.2.2.2.2) ++ sgM g) := joinR hW hB hk hS (frsub C (WB_R hW)) (fun x hx => cel_x (hv_x rfl rfl (notm hW x hx)))
                obtain ⟨hwm, hc266⟩ : WM (hv (hv J [42] [(26, 0), (26, 2)] u263.1) [100, 127, 128] [(13, 42)] u266) ∧ ((r266.toInt = (-6) ∧ ((J 13 42).toInt = 40) ∧ u266 13 42 = J 13 42 ∧ u266 127 = J 127 ∧ u266 128 = J 128) ∨ (r266.toInt = (J 13 42).toInt ∧ ((J 13 42).toInt ≤ 39) ∧ (u266 13 42).toInt = (J 13 42).toInt + 1 ∧ u266 127 = up2 J 127 (J 13 42).toNatClampNeg (J 13 31) 127 ∧ u266 128 = up2 J 128 (J 13 42).toNatClampNeg (-9) 128)) := hp266
                refine lv_pop hx hb dL_law_1115 rfl ?_
                refine lv_goto (tgt := 1389) hx hb dL_law_1116 (by decide) ?_
                obtain ⟨x267, e267⟩ : ∃ y : Int32, y = i + 5 := ⟨_, rfl⟩
                refine lv_iinc (v := x267) (lv' := [(3, .int x267), (0, .ref b), (1, .ref (g.2.2.1 12)), (2, .ref (g.2.2.1 13))]) hx hb dL_law_1389 hl (k := 0) rfl (by rw [e267]; rfl) (by decide) rfl (fun ls hl => ?_)
                try have t267 : x267.toInt = i.toInt + 5 := tadd e267 rfl kp5 (by omega)
                refine lv_goto (tgt := 18) hx hb dL_law_1392 (by decide) ?_
                refine W.widen (k := 1000 + 10 * (k + 1)) (n := 200000 + 20100 * (k + 1)) (by omega) (by omega) ?_
                obtain ⟨hnew10, hnew16, hnew33⟩ := rel_news k g J I P E N dy r263 u263 r266 u266 hk64 hwf0 hwm0 hnow0 hrl0 hac0 hrel0 hrel1 hrel2 hrel3 hrel4 hrel5 hrel6 hrel7 hrel8 hrel9 hrel10 hrel11 hrel12 hrel13 hrel14 hrel15 hrel16 hrel17 hrel18 hrel19 hrel20 hrel21 hrel22 hrel23 hrel24 hrel25 hrel26 hrel27 hrel28 hrel29 hrel30 hrel31 hrel32 hrel33 hrel34 hrel35 hrel36 hrel37 hrel38 hrel39 hrel40 hrel41 hrel42 hrel43 hrel44 hc263 hf263_0 hc266
                exact ih (k + 1) x267 (hv (hv J [42] [(26, 0), (26, 2)] u263.1) [100, 127, 128] [(13, 42)] u266) L (hv I [5] [] u263.2.1) (hv P [5, 36] [] u263.2.2.1) (hv1 E [26] u263.2.2.2.1) u263.2.2.2.2.1 u263.2.2.2.2.2 H locs ls (by omega) (by omega) (by omega) hwf hwm hnow hrl hac hrel0 hrel1 hrel2 hrel3 hrel4 hrel5 hrel6 hrel7 hrel8 hrel9 hnew10 hrel11 hrel12 hrel13 hrel14 hrel15 hnew16 hrel17 hrel18 hrel19 hrel20 hrel21 hrel22 hrel23 hrel24 hrel25 hrel26 hrel27 hrel28 hrel29 hrel30 (tol_s (a := J 13 49) (k := k) hk64 (Or.inl rfl) hrel31) hrel32 hnew33 hrel34 hrel35 hrel36 hrel37 hrel38 hrel39 hrel40 hrel41 hrel42 hrel43 hrel44 hW (lv_sub hl [0, 1, 2, 3] rfl)
          · refine lv_tableIn (off := 1087) (tgt := 1119) hx hb dL_law_32 (Int.not_lt.mpr c6) (Int.not_lt.mpr c6b) (by rw [c6k]; rfl) (by decide) ?_
            refine lv_aload_n hx hb dL_law_1119 rfl (lv_at hl 2 rfl) ?_
            refine lv_aload_n hx hb dL_law_1120 rfl (lv_at hl 1 rfl) ?_
            refine lv_iload_n hx hb dL_law_1121 rfl (lv_at hl 0 rfl) ?_
            refine lv_iconst (v := 1) hx hb dL_law_1122 (by decide) ?_
            refine lv_iadd hx hb dL_law_1123 ?_
            refine lv_topi (fun x268 (e268 : x268 = i + 1) => ?_)
            try have t268 : x268.toInt = i.toInt + 1 := tadd e268 rfl kp1 (by omega)
            have hin : vp_in x268 Lx := tin rfl (by omega)
            refine va_sld hx hb hX hbl hbA hW.2.2.1 hin dL_law_1124 ?_
            refine lv_topi (fun x269 (e269 : x269 = xs x268.toNatClampNeg) => ?_)
            refine lv_aload_n hx hb dL_law_1125 rfl (lv_at hl 1 rfl) ?_
            refine lv_iload_n hx hb dL_law_1126 rfl (lv_at hl 0 rfl) ?_
            refine lv_iconst (v := 2) hx hb dL_law_1127 (by decide) ?_
            refine lv_iadd hx hb dL_law_1128 ?_
            refine lv_topi (fun x270 (e270 : x270 = i + 2) => ?_)
            try have t270 : x270.toInt = i.toInt + 2 := tadd e270 rfl kp2 (by omega)
            have hin : vp_in x270 Lx := tin rfl (by omega)
            refine va_sld hx hb hX hbl hbA hW.2.2.1 hin dL_law_1129 ?_
            refine lv_topi (fun x271 (e271 : x271 = xs x270.toNatClampNeg) => ?_)
            refine ci2_ C (WB_L hW) (runV (x := g.2.2.1 12) (As := [.int x269, .int x271]) (rest := []) (T := ((J, L, I, P, E, N), sgX g ++ dy)) C (WB_L hW) (c_X11_printed_e l g J L I P E N dy H.size x269 x271 hwf) mi_X11_printed tw_955 (recv_ (T := ((J, L, I, P, E, N), sgX g ++ dy)) C (WB_L hW) (mx_ rfl) rfl rfl) ⟨rfl, rfl, Nat.le_of_ble_eq_true rfl, Nat.le_of_ble_eq_true rfl⟩ rfl hl.1 rfl (Nat.le_of_ble_eq_true rfl) dL_law_1130 ⟨by show 1000 + 10 * k + 0 ≤ 600000; omega, by show 200000 + 20100 * k + 0 ≤ 7302250; omega⟩) (fun r272 u272 H locs hp272 hB hk hS => ?_)
            have hW : WB g A s.heap H locs ((hv J [42] [] u272.1), L, (hv I [] [(5, 1)] u272.2), P, E, N) ((sgX g ++ dy) ++ sgM g) := joinL hW hB hk hS (frsub C (WB_L hW)) (okM hW (fun r h => hv_m (J := J) (R := [42]) (F := []) rfl rfl h) (fun r h => rfl))
            have hc272 : ((r272.toInt = (-1) ∧ (¬ (0 ≤ x269.toInt ∧ x269.toInt < (J 26 2).toInt)) ∧ u272.2 5 1 = I 5 1) ∨ (r272.toInt = (-3) ∧ (0 ≤ x269.toInt ∧ x269.toInt < (J 26 2).toInt ∧ ¬ (I 5 1 (elt E P 26 x269.toNatClampNeg)).toInt = -1) ∧ u272.2 5 1 = I 5 1) ∨ (r272.toInt = (-4) ∧ (0 ≤ x269.toInt ∧ x269.toInt < (J 26 2).toInt ∧ (I 5 1 (elt E P 26 x269.toNatClampNeg)).toInt = -1 ∧ x271.toInt < (J 3 1).toInt) ∧ u272.2 5 1 = I 5 1) ∨ (r272.toInt = (-6) ∧ (0 ≤ x269.toInt ∧ x269.toInt < (J 26 2).toInt ∧ (I 5 1 (elt E P 26 x269.toNatClampNeg)).toInt = -1 ∧ (J 3 1).toInt ≤ x271.toInt ∧ 9999 < x271.toInt) ∧ u272.2 5 1 = I 5 1) ∨ (r272.toInt = 1 ∧ (0 ≤ x269.toInt ∧ x269.toInt < (J 26 2).toInt ∧ (I 5 1 (elt E P 26 x269.toNatClampNeg)).toInt = -1 ∧ (J 3 1).toInt ≤ x271.toInt ∧ x271.toInt ≤ 9999) ∧ (∀ b : Nat, b ≠ elt E P 26 x269.toNatClampNeg → u272.2 5 1 b = I 5 1 b) ∧ u272.2 5 1 (elt E P 26 x269.toNatClampNeg) = x271)) := hp272
            refine lv_pop hx hb dL_law_1133 rfl ?_
            refine lv_aload_n hx hb dL_law_1134 rfl (lv_at hl 3 rfl) ?_
            refine lv_aload_n hx hb dL_law_1135 rfl (lv_at hl 1 rfl) ?_
            refine lv_iload_n hx hb dL_law_1136 rfl (lv_at hl 0 rfl) ?_
            refine lv_iconst (v := 1) hx hb dL_law_1137 (by decide) ?_
            refine lv_iadd hx hb dL_law_1138 ?_
            refine lv_topi (fun x273 (e273 : x273 = i + 1) => ?_)
            try have t273 : x273.toInt = i.toInt + 1 := tadd e273 rfl kp1 (by omega)
            have hin : vp_in x273 Lx := tin rfl (by omega)
            refine va_sld hx hb hX hbl hbA hW.2.2.1 hin dL_law_1139 ?_
            refine lv_as x269 (by rw [e269, e268, e273]) ?_
            refine lv_aload_n hx hb dL_law_1140 rfl (lv_at hl 1 rfl) ?_
            refine lv_iload_n hx hb dL_law_1141 rfl (lv_at hl 0 rfl) ?_
            refine lv_iconst (v := 2) hx hb dL_law_1142 (by decide) ?_
            refine lv_iadd hx hb dL_law_1143 ?_
            refine lv_topi (fun x274 (e274 : x274 = i + 2) => ?_)
            try have t274 : x274.toInt = i.toInt + 2 := tadd e274 rfl kp2 (by omega)
            have hin : vp_in x274 Lx := tin rfl (by omega)
            refine va_sld hx hb hX hbl hbA hW.2.2.1 hin dL_law_1144 ?_
            refine lv_as x271 (by rw [e271, e270, e274]) ?_
            refine ci2_ C (WB_R hW) (runV (x := g.2.2.1 13) (As := [.int x269, .int x271]) (rest := []) (T := (((hv J [42] [] u272.1), L, (hv I [] [(5, 1)] u272.2), P, E, N), sgM g)) C (WB_R hW) (c_X12_printed_e l g (hv J [42] [] u272.1) L (hv I [] [(5, 1)] u272.2) P E N H.size x269 x271 hwm) mi_X12_printed tw_1507 (recv_ (T := (((hv J [42] [] u272.1), L, (hv I [] [(5, 1)] u272.2), P, E, N), sgM g)) C (WB_R hW) (mm_ rfl) rfl rfl) ⟨rfl, rfl, Nat.le_of_ble_eq_true rfl, Nat.le_of_ble_eq_true rfl⟩ rfl hl.1 rfl (Nat.le_of_ble_eq_true rfl) dL_law_1145 ⟨by show 1000 + 10 * k + 0 + 0 ≤ 600000; omega, by show 200000 + 20100 * k + 0 + 0 ≤ 7302250; omega⟩) (fun r275 u275 H locs hp275 hB hk hS => ?_)
            have hW : WB g A s.heap H locs ((hv (hv J [42] [] u272.1) [100, 128] [] u275), L, (hv I [] [(5, 1)] u272.2), P, E, N) ((sgX g ++ dy) ++ sgM g) := joinR hW hB hk hS (frsub C (WB_R hW)) (fun x hx => cel_x (hv_x rfl rfl (notm hW x hx)))
            refine lv_pop hx hb dL_law_1148 rfl ?_
            refine lv_goto (tgt := 1389) hx hb dL_law_1149 (by decide) ?_
            obtain ⟨x276, e276⟩ : ∃ y : Int32, y = i + 5 := ⟨_, rfl⟩
            refine lv_iinc (v := x276) (lv' := [(3, .int x276), (0, .ref b), (1, .ref (g.2.2.1 12)), (2, .ref (g.2.2.1 13))]) hx hb dL_law_1389 hl (k := 0) rfl (by rw [e276]; rfl) (by decide) rfl (fun ls hl => ?_)
            try have t276 : x276.toInt = i.toInt + 5 := tadd e276 rfl kp5 (by omega)
            refine lv_goto (tgt := 18) hx hb dL_law_1392 (by decide) ?_
            refine W.widen (k := 1000 + 10 * (k + 1)) (n := 200000 + 20100 * (k + 1)) (by omega) (by omega) ?_
            exact ih (k + 1) x276 (hv (hv J [42] [] u272.1) [100, 128] [] u275) L (hv I [] [(5, 1)] u272.2) P E N dy H locs ls (by omega) (by omega) (by omega) hwf hwm hnow hrl hac hrel0 hrel1 hrel2 hrel3 hrel4 hrel5 hrel6 hrel7 hrel8 hrel9 hrel10 hrel11 hrel12 hrel13 hrel14 hrel15 hrel16 hrel17 hrel18 hrel19 hrel20 hrel21 hrel22 hrel23 hrel24 hrel25 hrel26 hrel27 hrel28 hrel29 hrel30 (tol_s (a := J 13 49) (k := k) hk64 (Or.inl rfl) hrel31) hrel32 hrel33 hrel34 hrel35 hrel36 hrel37 hrel38 hrel39 hrel40 hrel41 hrel42 hrel43 hrel44 hW (lv_sub hl [0, 1, 2, 3] rfl)
          · refine lv_tableIn (off := 1120) (tgt := 1152) hx hb dL_law_32 (Int.not_lt.mpr c6) (Int.not_lt.mpr c6b) (by rw [c6k]; rfl) (by decide) ?_
            refine lv_aload_n hx hb dL_law_1152 rfl (lv_at hl 2 rfl) ?_
            refine lv_aload_n hx hb dL_law_1153 rfl (lv_at hl 1 rfl) ?_
            refine lv_iload_n hx hb dL_law_1154 rfl (lv_at hl 0 rfl) ?_
            refine lv_iconst (v := 1) hx hb dL_law_1155 (by decide) ?_
            refine lv_iadd hx hb dL_law_1156 ?_
            refine lv_topi (fun x277 (e277 : x277 = i + 1) => ?_)
            try have t277 : x277.toInt = i.toInt + 1 := tadd e277 rfl kp1 (by omega)
            have hin : vp_in x277 Lx := tin rfl (by omega)
            refine va_sld hx hb hX hbl hbA hW.2.2.1 hin dL_law_1157 ?_
            refine lv_topi (fun x278 (e278 : x278 = xs x277.toNatClampNeg) => ?_)
            refine ci2_ C (WB_L hW) (runV (x := g.2.2.1 12) (As := [.int x278]) (rest := []) (T := ((J, L, I, P, E, N), sgX g ++ dy)) C (WB_L hW) (c_X11_lag_e l g J L I P E N dy H.size x278 hwf hrel9) mi_X11_lag tw_959 (recv_ (T := ((J, L, I, P, E, N), sgX g ++ dy)) C (WB_L hW) (mx_ rfl) rfl rfl) ⟨rfl, rfl, Nat.le_of_ble_eq_true rfl, Nat.le_of_ble_eq_true rfl⟩ rfl hl.1 rfl (Nat.le_of_ble_eq_true rfl) dL_law_1158 ⟨by show 1000 + 10 * k + 0 ≤ 600000; omega, by show 200000 + 20100 * k + 0 ≤ 7302250; omega⟩) (fun r279 u279 H locs hp279 hB hk hS => ?_)
            have hW : WB g A s.heap H locs ((hv J [42] [] u279), L, I, P, E, N) ((sgX g ++ dy) ++ sgM g) := joinL hW hB hk hS (frsub C (WB_L hW)) (okM hW (fun r h => hv_m (J := J) (R := [42]) (F := []) rfl rfl h) (fun r h => rfl))
            have hc279 : ((r279.toInt = (-1) ∧ (¬ (0 ≤ x278.toInt ∧ x278.toInt < (J 3 1).toInt))) ∨ (r279.toInt = (-3) ∧ (0 ≤ x278.toInt ∧ x278.toInt < (J 3 1).toInt ∧ ¬ (J 116 x278.toNatClampNeg).toInt = 0)) ∨ (r279.toInt = (-9) ∧ (0 ≤ x278.toInt ∧ x278.toInt < (J 3 1).toInt ∧ (J 116 x278.toNatClampNeg).toInt = 0 ∧ ¬ (0 ≤ (J 119 x278.toNatClampNeg).toInt ∧ (J 119 x278.toNatClampNeg).toInt < (J 26 2).toInt))) ∨ (r279 = x278 - I 5 0 (elt E P 26 (J 119 x278.toNatClampNeg).toNatClampNeg) ∧ (0 ≤ x278.toInt ∧ x278.toInt < (J 3 1).toInt ∧ (J 116 x278.toNatClampNeg).toInt = 0 ∧ 0 ≤ (J 119 x278.toNatClampNeg).toInt ∧ (J 119 x278.toNatClampNeg).toInt < (J 26 2).toInt))) := hp279
            refine lv_pop hx hb dL_law_1161 rfl ?_
            refine lv_aload_n hx hb dL_law_1162 rfl (lv_at hl 3 rfl) ?_
            refine lv_aload_n hx hb dL_law_1163 rfl (lv_at hl 1 rfl) ?_
            refine lv_iload_n hx hb dL_law_1164 rfl (lv_at hl 0 rfl) ?_
            refine lv_iconst (v := 1) hx hb dL_law_1165 (by decide) ?_
            refine lv_iadd hx hb dL_law_1166 ?_
            refine lv_topi (fun x280 (e280 : x280 = i + 1) => ?_)
            try have t280 : x280.toInt = i.toInt + 1 := tadd e280 rfl kp1 (by omega)
            have hin : vp_in x280 Lx := tin rfl (by omega)
            refine va_sld hx hb hX hbl hbA hW.2.2.1 hin dL_law_1167 ?_
            refine lv_as x278 (by rw [e278, e277, e280]) ?_
            refine ci2_ C (WB_R hW) (runV (x := g.2.2.1 13) (As := [.int x278]) (rest := []) (T := (((hv J [42] [] u279), L, I, P, E, N), sgM g)) C (WB_R hW) (c_X12_lag_e l g (hv J [42] [] u279) L I P E N H.size x278 hwm) mi_X12_lag tw_1511 (recv_ (T := (((hv J [42] [] u279), L, I, P, E, N), sgM g)) C (WB_R hW) (mm_ rfl) rfl rfl) ⟨rfl, rfl, Nat.le_of_ble_eq_true rfl, Nat.le_of_ble_eq_true rfl⟩ rfl hl.1 rfl (Nat.le_of_ble_eq_true rfl) dL_law_1168 ⟨by show 1000 + 10 * k + 0 + 0 ≤ 600000; omega, by show 200000 + 20100 * k + 0 + 0 ≤ 7302250; omega⟩) (fun r281 u281 H locs hp281 hB hk hS => ?_)
            have hW : WB g A s.heap H locs ((hv (hv J [42] [] u279) [100] [] u281), L, I, P, E, N) ((sgX g ++ dy) ++ sgM g) := joinR hW hB hk hS (frsub C (WB_R hW)) (fun x hx => cel_x (hv_x rfl rfl (notm hW x hx)))
            refine lv_pop hx hb dL_law_1171 rfl ?_
            refine lv_goto (tgt := 1389) hx hb dL_law_1172 (by decide) ?_
            obtain ⟨x282, e282⟩ : ∃ y : Int32, y = i + 5 := ⟨_, rfl⟩
            refine lv_iinc (v := x282) (lv' := [(3, .int x282), (0, .ref b), (1, .ref (g.2.2.1 12)), (2, .ref (g.2.2.1 13))]) hx hb dL_law_1389 hl (k := 0) rfl (by rw [e282]; rfl) (by decide) rfl (fun ls hl => ?_)
            try have t282 : x282.toInt = i.toInt + 5 := tadd e282 rfl kp5 (by omega)
            refine lv_goto (tgt := 18) hx hb dL_law_1392 (by decide) ?_
            refine W.widen (k := 1000 + 10 * (k + 1)) (n := 200000 + 20100 * (k + 1)) (by omega) (by omega) ?_
            exact ih (k + 1) x282 (hv (hv J [42] [] u279) [100] [] u281) L I P E N dy H locs ls (by omega) (by omega) (by omega) hwf hwm hnow hrl hac hrel0 hrel1 hrel2 hrel3 hrel4 hrel5 hrel6 hrel7 hrel8 hrel9 hrel10 hrel11 hrel12 hrel13 hrel14 hrel15 hrel16 hrel17 hrel18 hrel19 hrel20 hrel21 hrel22 hrel23 hrel24 hrel25 hrel26 hrel27 hrel28 hrel29 hrel30 (tol_s (a := J 13 49) (k := k) hk64 (Or.inl rfl) hrel31) hrel32 hrel33 hrel34 hrel35 hrel36 hrel37 hrel38 hrel39 hrel40 hrel41 hrel42 hrel43 hrel44 hW (lv_sub hl [0, 1, 2, 3] rfl)
          · refine lv_tableIn (off := 1143) (tgt := 1175) hx hb dL_law_32 (Int.not_lt.mpr c6) (Int.not_lt.mpr c6b) (by rw [c6k]; rfl) (by decide) ?_
            refine lv_aload_n hx hb dL_law_1175 rfl (lv_at hl 2 rfl) ?_
            refine lv_aload_n hx hb dL_law_1176 rfl (lv_at hl 1 rfl) ?_
            refine lv_iload_n hx hb dL_law_1177 rfl (lv_at hl 0 rfl) ?_
            refine lv_iconst (v := 1) hx hb dL_law_1178 (by decide) ?_
            refine lv_iadd hx hb dL_law_1179 ?_
            refine lv_topi (fun x283 (e283 : x283 = i + 1) => ?_)
            try have t283 : x283.toInt = i.toInt + 1 := tadd e283 rfl kp1 (by omega)
            have hin : vp_in x283 Lx := tin rfl (by omega)
            refine va_sld hx hb hX hbl hbA hW.2.2.1 hin dL_law_1180 ?_
            refine lv_topi (fun x284 (e284 : x284 = xs x283.toNatClampNeg) => ?_)
            refine ci2_ C (WB_L hW) (runV (x := g.2.2.1 12) (As := [.int x284]) (rest := []) (T := ((J, L, I, P, E, N), sgX g ++ dy)) C (WB_L hW) (c_X11_fresh_e l g J L I P E N dy H.size x284 hwf hrel9) mi_X11_fresh tw_966 (recv_ (T := ((J, L, I, P, E, N), sgX g ++ dy)) C (WB_L hW) (mx_ rfl) rfl rfl) ⟨rfl, rfl, Nat.le_of_ble_eq_true rfl, Nat.le_of_ble_eq_true rfl⟩ rfl hl.1 rfl (Nat.le_of_ble_eq_true rfl) dL_law_1181 ⟨by show 1000 + 10 * k + 0 ≤ 600000; omega, by show 200000 + 20100 * k + 0 ≤ 7302250; omega⟩) (fun r285 u285 H locs hp285 hB hk hS => ?_)
            have hW : WB g A s.heap H locs ((hv J [42] [] u285), L, I, P, E, N) ((sgX g ++ dy) ++ sgM g) := joinL hW hB hk hS (frsub C (WB_L hW)) (okM hW (fun r h => hv_m (J := J) (R := [42]) (F := []) rfl rfl h) (fun r h => rfl))
            have hc285 : ((r285.toInt = (-1) ∧ (¬ (0 ≤ x284.toInt ∧ x284.toInt < (J 3 1).toInt))) ∨ (r285.toInt = (-3) ∧ (0 ≤ x284.toInt ∧ x284.toInt < (J 3 1).toInt ∧ ¬ (J 116 x284.toNatClampNeg).toInt = 0)) ∨ (r285.toInt = (-9) ∧ (0 ≤ x284.toInt ∧ x284.toInt < (J 3 1).toInt ∧ (J 116 x284.toNatClampNeg).toInt = 0 ∧ ¬ (0 ≤ (J 119 x284.toNatClampNeg).toInt ∧ (J 119 x284.toNatClampNeg).toInt < (J 26 2).toInt))) ∨ (r285.toInt = 1 ∧ (0 ≤ x284.toInt ∧ x284.toInt < (J 3 1).toInt ∧ (J 116 x284.toNatClampNeg).toInt = 0 ∧ 0 ≤ (J 119 x284.toNatClampNeg).toInt ∧ (J 119 x284.toNatClampNeg).toInt < (J 26 2).toInt ∧ ((I 5 2 (elt E P 26 (J 119 x284.toNatClampNeg).toNatClampNeg)).toInt = x284.toInt ∧ ((I 5 1 (elt E P 26 (J 119 x284.toNatClampNeg).toNatClampNeg)).toInt = -1 ∨ x284.toInt < (I 5 1 (elt E P 26 (J 119 x284.toNatClampNeg).toNatClampNeg)).toInt)))) ∨ (r285.toInt = 0 ∧ (0 ≤ x284.toInt ∧ x284.toInt < (J 3 1).toInt ∧ (J 116 x284.toNatClampNeg).toInt = 0 ∧ 0 ≤ (J 119 x284.toNatClampNeg).toInt ∧ (J 119 x284.toNatClampNeg).toInt < (J 26 2).toInt ∧ ¬ ((I 5 2 (elt E P 26 (J 119 x284.toNatClampNeg).toNatClampNeg)).toInt = x284.toInt ∧ ((I 5 1 (elt E P 26 (J 119 x284.toNatClampNeg).toNatClampNeg)).toInt = -1 ∨ x284.toInt < (I 5 1 (elt E P 26 (J 119 x284.toNatClampNeg).toNatClampNeg)).toInt))))) := hp285
            refine lv_pop hx hb dL_law_1184 rfl ?_
            refine lv_aload_n hx hb dL_law_1185 rfl (lv_at hl 3 rfl) ?_
            refine lv_aload_n hx hb dL_law_1186 rfl (lv_at hl 1 rfl) ?_
            refine lv_iload_n hx hb dL_law_1187 rfl (lv_at hl 0 rfl) ?_
            refine lv_iconst (v := 1) hx hb dL_law_1188 (by decide) ?_
            refine lv_iadd hx hb dL_law_1189 ?_
            refine lv_topi (fun x286 (e286 : x286 = i + 1) => ?_)
            try have t286 : x286.toInt = i.toInt + 1 := tadd e286 rfl kp1 (by omega)
            have hin : vp_in x286 Lx := tin rfl (by omega)
            refine va_sld hx hb hX hbl hbA hW.2.2.1 hin dL_law_1190 ?_
            refine lv_as x284 (by rw [e284, e283, e286]) ?_
            refine ci2_ C (WB_R hW) (runV (x := g.2.2.1 13) (As := [.int x284]) (rest := []) (T := (((hv J [42] [] u285), L, I, P, E, N), sgM g)) C (WB_R hW) (c_X12_fresh_e l g (hv J [42] [] u285) L I P E N H.size x284 hwm) mi_X12_fresh tw_1515 (recv_ (T := (((hv J [42] [] u285), L, I, P, E, N), sgM g)) C (WB_R hW) (mm_ rfl) rfl rfl) ⟨rfl, rfl, Nat.le_of_ble_eq_true rfl, Nat.le_of_ble_eq_true rfl⟩ rfl hl.1 rfl (Nat.le_of_ble_eq_true rfl) dL_law_1191 ⟨by show 1000 + 10 * k + 0 + 0 ≤ 600000; omega, by show 200000 + 20100 * k + 0 + 0 ≤ 7302250; omega⟩) (fun r287 u287 H locs hp287 hB hk hS => ?_)
            have hW : WB g A s.heap H locs ((hv (hv J [42] [] u285) [100] [] u287), L, I, P, E, N) ((sgX g ++ dy) ++ sgM g) := joinR hW hB hk hS (frsub C (WB_R hW)) (fun x hx => cel_x (hv_x rfl rfl (notm hW x hx)))
            refine lv_pop hx hb dL_law_1194 rfl ?_
            refine lv_goto (tgt := 1389) hx hb dL_law_1195 (by decide) ?_
            obtain ⟨x288, e288⟩ : ∃ y : Int32, y = i + 5 := ⟨_, rfl⟩
            refine lv_iinc (v := x288) (lv' := [(3, .int x288), (0, .ref b), (1, .ref (g.2.2.1 12)), (2, .ref (g.2.2.1 13))]) hx hb dL_law_1389 hl (k := 0) rfl (by rw [e288]; rfl) (by decide) rfl (fun ls hl => ?_)
            try have t288 : x288.toInt = i.toInt + 5 := tadd e288 rfl kp5 (by omega)
            refine lv_goto (tgt := 18) hx hb dL_law_1392 (by decide) ?_
            refine W.widen (k := 1000 + 10 * (k + 1)) (n := 200000 + 20100 * (k + 1)) (by omega) (by omega) ?_
            exact ih (k + 1) x288 (hv (hv J [42] [] u285) [100] [] u287) L I P E N dy H locs ls (by omega) (by omega) (by omega) hwf hwm hnow hrl hac hrel0 hrel1 hrel2 hrel3 hrel4 hrel5 hrel6 hrel7 hrel8 hrel9 hrel10 hrel11 hrel12 hrel13 hrel14 hrel15 hrel16 hrel17 hrel18 hrel19 hrel20 hrel21 hrel22 hrel23 hrel24 hrel25 hrel26 hrel27 hrel28 hrel29 hrel30 (tol_s (a := J 13 49) (k := k) hk64 (Or.inl rfl) hrel31) hrel32 hrel33 hrel34 hrel35 hrel36 hrel37 hrel38 hrel39 hrel40 hrel41 hrel42 hrel43 hrel44 hW (lv_sub hl [0, 1, 2, 3] rfl)
          · refine lv_tableIn (off := 1166) (tgt := 1198) hx hb dL_law_32 (Int.not_lt.mpr c6) (Int.not_lt.mpr c6b) (by rw [c6k]; rfl) (by decide) ?_
            refine lv_aload_n hx hb dL_law_1198 rfl (lv_at hl 2 rfl) ?_
            refine lv_aload_n hx hb dL_law_1199 rfl (lv_at hl 1 rfl) ?_
            refine lv_iload_n hx hb dL_law_1200 rfl (lv_at hl 0 rfl) ?_
            refine lv_iconst (v := 1) hx hb dL_law_1201 (by decide) ?_
            refine lv_iadd hx hb dL_law_1202 ?_
            refine lv_topi (fun x289 (e289 : x289 = i + 1) => ?_)
            try have t289 : x289.toInt = i.toInt + 1 := tadd e289 rfl kp1 (by omega)
            have hin : vp_in x289 Lx := tin rfl (by omega)
            refine va_sld hx hb hX hbl hbA hW.2.2.1 hin dL_law_1203 ?_
            refine lv_topi (fun x290 (e290 : x290 = xs x289.toNatClampNeg) => ?_)
            refine ci2_ C (WB_L hW) (runV (x := g.2.2.1 12) (As := [.int x290]) (rest := []) (T := ((J, L, I, P, E, N), sgX g ++ dy)) C (WB_L hW) (c_X11_advert_e l g J L I P E N dy H.size x290 hwf hac) mi_X11_advert tw_974 (recv_ (T := ((J, L, I, P, E, N), sgX g ++ dy)) C (WB_L hW) (mx_ rfl) rfl rfl) ⟨rfl, rfl, Nat.le_of_ble_eq_true rfl, Nat.le_of_ble_eq_true rfl⟩ rfl hl.1 rfl (Nat.le_of_ble_eq_true rfl) dL_law_1204 ⟨by show 1000 + 10 * k + 0 ≤ 600000; omega, by show 200000 + 20100 * k + 0 ≤ 7302250; omega⟩) (fun r291 u291 H locs hp291 hB hk hS => ?_)
            have hW : WB g A s.heap H locs ((hv J [40, 42] [(12, 10)] u291), L, I, P, E, N) ((sgX g ++ dy) ++ sgM g) := joinL hW hB hk hS (frsub C (WB_L hW)) (okM hW (fun r h => hv_m (J := J) (R := [40, 42]) (F := [(12, 10)]) rfl rfl h) (fun r h => rfl))
            obtain ⟨hc291, hf291_0⟩ : ((r291.toInt = (-4) ∧ (x290.toInt < 0) ∧ u291 12 10 = J 12 10 ∧ u291 40 = J 40) ∨ (r291.toInt = (-6) ∧ (0 ≤ x290.toInt ∧ (9 < x290.toInt ∨ 200 ≤ (J 12 10).toInt)) ∧ u291 12 10 = J 12 10 ∧ u291 40 = J 40) ∨ (r291.toInt = (J 12 10).toInt / 5 ∧ (0 ≤ x290.toInt ∧ x290.toInt ≤ 9 ∧ (J 12 10).toInt ≤ 199) ∧ (u291 12 10).toInt = (J 12 10).toInt + 1 ∧ u291 40 = up2 J 40 (J 12 10).toNatClampNeg x290 40)) ∧ (0 ≤ (u291 12 10).toInt) := hp291
            have hac := hf291_0
            refine lv_pop hx hb dL_law_1207 rfl ?_
            refine lv_aload_n hx hb dL_law_1208 rfl (lv_at hl 3 rfl) ?_
            refine lv_aload_n hx hb dL_law_1209 rfl (lv_at hl 1 rfl) ?_
            refine lv_iload_n hx hb dL_law_1210 rfl (lv_at hl 0 rfl) ?_
            refine lv_iconst (v := 1) hx hb dL_law_1211 (by decide) ?_
            refine lv_iadd hx hb dL_law_1212 ?_
            refine lv_topi (fun x292 (e292 : x292 = i + 1) => ?_)
            try have t292 : x292.toInt = i.toInt + 1 := tadd e292 rfl kp1 (by omega)
            have hin : vp_in x292 Lx := tin rfl (by omega)
            refine va_sld hx hb hX hbl hbA hW.2.2.1 hin dL_law_1213 ?_
            refine lv_as x290 (by rw [e290, e289, e292]) ?_
            refine ci2_ C (WB_R hW) (runV (x := g.2.2.1 13) (As := [.int x290]) (rest := []) (T := (((hv J [40, 42] [(12, 10)] u291), L, I, P, E, N), sgM g)) C (WB_R hW) (c_X12_advert l g (hv J [40, 42] [(12, 10)] u291) L I P E N H.size x290 hwm) mi_X12_advert tw_1519 (recv_ (T := (((hv J [40, 42] [(12, 10)] u291), L, I, P, E, N), sgM g)) C (WB_R hW) (mm_ rfl) rfl rfl) ⟨rfl, rfl, Nat.le_of_ble_eq_true rfl, Nat.le_of_ble_eq_true rfl⟩ rfl hl.1 rfl (Nat.le_of_ble_eq_true rfl) dL_law_1214 ⟨by show 1000 + 10 * k + 0 + 0 ≤ 600000; omega, by show 200000 + 20100 * k + 0 + 0 ≤ 7302250; omega⟩) (fun r293 u293 H locs hp293 hB hk hS => ?_)
            have hW : WB g A s.heap H locs ((hv (hv J [40, 42] [(12, 10)] u291) [100, 129] [(13, 43)] u293), L, I, P, E, N) ((sgX g ++ dy) ++ sgM g) := joinR hW hB hk hS (frsub C (WB_R hW)) (fun x hx => cel_x (hv_x rfl rfl (notm hW x hx)))
            obtain ⟨hwm, hc293⟩ : WM (hv (hv J [40, 42] [(12, 10)] u291) [100, 129] [(13, 43)] u293) ∧ ((r293.toInt = (-4) ∧ (x290.toInt < 0) ∧ u293 13 43 = J 13 43) ∨ (r293.toInt = (-6) ∧ (0 ≤ x290.toInt ∧ (9 < x290.toInt ∨ (J 13 43).toInt = 200)) ∧ u293 13 43 = J 13 43) ∨ (r293.toInt = (J 13 43).toInt / 5 ∧ (0 ≤ x290.toInt ∧ x290.toInt ≤ 9 ∧ (J 13 43).toInt ≤ 199) ∧ (u293 13 43).toInt = (J 13 43).toInt + 1)) := hp293
            refine lv_pop hx hb dL_law_1217 rfl ?_
            refine lv_goto (tgt := 1389) hx hb dL_law_1218 (by decide) ?_
            obtain ⟨x294, e294⟩ : ∃ y : Int32, y = i + 5 := ⟨_, rfl⟩
            refine lv_iinc (v := x294) (lv' := [(3, .int x294), (0, .ref b), (1, .ref (g.2.2.1 12)), (2, .ref (g.2.2.1 13))]) hx hb dL_law_1389 hl (k := 0) rfl (by rw [e294]; rfl) (by decide) rfl (fun ls hl => ?_)
            try have t294 : x294.toInt = i.toInt + 5 := tadd e294 rfl kp5 (by omega)
            refine lv_goto (tgt := 18) hx hb dL_law_1392 (by decide) ?_
            refine W.widen (k := 1000 + 10 * (k + 1)) (n := 200000 + 20100 * (k + 1)) (by omega) (by omega) ?_
            exact ih (k + 1) x294 (hv (hv J [40, 42] [(12, 10)] u291) [100, 129] [(13, 43)] u293) L I P E N dy H locs ls (by omega) (by omega) (by omega) hwf hwm hnow hrl hac hrel0 hrel1 hrel2 hrel3 hrel4 hrel5 hrel6 hrel7 hrel8 hrel9 hrel10 hrel11 hrel12 hrel13 hrel14 hrel15 hrel16 hrel17 hrel18 hrel19 hrel20 hrel21 hrel22 hrel23 hrel24 hrel25 hrel26 hrel27 hrel28 hrel29 hrel30 (tol_s (a := J 13 49) (k := k) hk64 (Or.inl rfl) hrel31) hrel32 hrel33 hrel34 hrel35 hrel36 hrel37 hrel38 hrel39 hrel40 hrel41 hrel42 hrel43 hrel44 hW (lv_sub hl [0, 1, 2, 3] rfl)
          · refine lv_tableIn (off := 1189) (tgt := 1221) hx hb dL_law_32 (Int.not_lt.mpr c6) (Int.not_lt.mpr c6b) (by rw [c6k]; rfl) (by decide) ?_
            refine lv_aload_n hx hb dL_law_1221 rfl (lv_at hl 2 rfl) ?_
            refine lv_aload_n hx hb dL_law_1222 rfl (lv_at hl 1 rfl) ?_
            refine lv_iload_n hx hb dL_law_1223 rfl (lv_at hl 0 rfl) ?_
            refine lv_iconst (v := 1) hx hb dL_law_1224 (by decide) ?_
            refine lv_iadd hx hb dL_law_1225 ?_
            refine lv_topi (fun x295 (e295 : x295 = i + 1) => ?_)
            try have t295 : x295.toInt = i.toInt + 1 := tadd e295 rfl kp1 (by omega)
            have hin : vp_in x295 Lx := tin rfl (by omega)
            refine va_sld hx hb hX hbl hbA hW.2.2.1 hin dL_law_1226 ?_
            refine lv_topi (fun x296 (e296 : x296 = xs x295.toNatClampNeg) => ?_)
            refine lv_aload_n hx hb dL_law_1227 rfl (lv_at hl 1 rfl) ?_
            refine lv_iload_n hx hb dL_law_1228 rfl (lv_at hl 0 rfl) ?_
            refine lv_iconst (v := 2) hx hb dL_law_1229 (by decide) ?_
            refine lv_iadd hx hb dL_law_1230 ?_
            refine lv_topi (fun x297 (e297 : x297 = i + 2) => ?_)
            try have t297 : x297.toInt = i.toInt + 2 := tadd e297 rfl kp2 (by omega)
            have hin : vp_in x297 Lx := tin rfl (by omega)
            refine va_sld hx hb hX hbl hbA hW.2.2.1 hin dL_law_1231 ?_
            refine lv_topi (fun x298 (e298 : x298 = xs x297.toNatClampNeg) => ?_)
            refine ci2_ C (WB_L hW) (runV (x := g.2.2.1 12) (As := [.int x296, .int x298]) (rest := []) (T := ((J, L, I, P, E, N), sgX g ++ dy)) C (WB_L hW) (c_X11_sold_e l g J L I P E N dy H.size x296 x298 hwf hac) mi_X11_sold tw_978 (recv_ (T := ((J, L, I, P, E, N), sgX g ++ dy)) C (WB_L hW) (mx_ rfl) rfl rfl) ⟨rfl, rfl, Nat.le_of_ble_eq_true rfl, Nat.le_of_ble_eq_true rfl⟩ rfl hl.1 rfl (Nat.le_of_ble_eq_true rfl) dL_law_1232 ⟨by show 1000 + 10 * k + 0 ≤ 600000; omega, by show 200000 + 20100 * k + 0 ≤ 7302250; omega⟩) (fun r299 u299 H locs hp299 hB hk hS => ?_)
            have hW : WB g A s.heap H locs ((hv J [42] [] u299), L, I, P, E, N) ((sgX g ++ dy) ++ sgM g) := joinL hW hB hk hS (frsub C (WB_L hW)) (okM hW (fun r h => hv_m (J := J) (R := [42]) (F := []) rfl rfl h) (fun r h => rfl))
            obtain ⟨hc299, hf299_0⟩ : ((r299.toInt = (-4) ∧ (x298.toInt < 0)) ∨ (r299.toInt = (-6) ∧ (5 ≤ x298.toInt)) ∨ (r299.toInt = (-9) ∧ (0 ≤ x298.toInt ∧ x298.toInt ≤ 4 ∧ (x296.toInt < 0 ∨ 40 ≤ x296.toInt ∨ (J 12 10).toInt ≤ 5 * x296.toInt + x298.toInt ∨ 200 ≤ 5 * x296.toInt + x298.toInt))) ∨ (r299 = r299 ∧ (0 ≤ x298.toInt ∧ x298.toInt ≤ 4 ∧ 0 ≤ x296.toInt ∧ x296.toInt ≤ 39 ∧ 5 * x296.toInt + x298.toInt < (J 12 10).toInt ∧ 5 * x296.toInt + x298.toInt < 200))) ∧ (0 ≤ x298.toInt ∧ x298.toInt ≤ 4 ∧ 0 ≤ x296.toInt ∧ x296.toInt ≤ 39 ∧ 5 * x296.toInt + x298.toInt < (J 12 10).toInt ∧ 5 * x296.toInt + x298.toInt < 200 → r299 = J 40 (5 * x296.toInt + x298.toInt).toNat) := hp299
            refine lv_pop hx hb dL_law_1235 rfl ?_
            refine lv_aload_n hx hb dL_law_1236 rfl (lv_at hl 3 rfl) ?_
            refine lv_aload_n hx hb dL_law_1237 rfl (lv_at hl 1 rfl) ?_
            refine lv_iload_n hx hb dL_law_1238 rfl (lv_at hl 0 rfl) ?_
            refine lv_iconst (v := 1) hx hb dL_law_1239 (by decide) ?_
            refine lv_iadd hx hb dL_law_1240 ?_
            refine lv_topi (fun x300 (e300 : x300 = i + 1) => ?_)
            try have t300 : x300.toInt = i.toInt + 1 := tadd e300 rfl kp1 (by omega)
            have hin : vp_in x300 Lx := tin rfl (by omega)
            refine va_sld hx hb hX hbl hbA hW.2.2.1 hin dL_law_1241 ?_
            refine lv_as x296 (by rw [e296, e295, e300]) ?_
            refine lv_aload_n hx hb dL_law_1242 rfl (lv_at hl 1 rfl) ?_
            refine lv_iload_n hx hb dL_law_1243 rfl (lv_at hl 0 rfl) ?_
            refine lv_iconst (v := 2) hx hb dL_law_1244 (by decide) ?_
            refine lv_iadd hx hb dL_law_1245 ?_
            refine lv_topi (fun x301 (e301 : x301 = i + 2) => ?_)
            try have t301 : x301.toInt = i.toInt + 2 := tadd e301 rfl kp2 (by omega)
            have hin : vp_in x301 Lx := tin rfl (by omega)
            refine va_sld hx hb hX hbl hbA hW.2.2.1 hin dL_law_1246 ?_
            refine lv_as x298 (by rw [e298, e297, e301]) ?_
            refine ci2_ C (WB_R hW) (runV (x := g.2.2.1 13) (As := [.int x296, .int x298]) (rest := []) (T := (((hv J [42] [] u299), L, I, P, E, N), sgM g)) C (WB_R hW) (c_X12_sold l g (hv J [42] [] u299) L I P E N H.size x296 x298 hwm) mi_X12_sold tw_1523 (recv_ (T := (((hv J [42] [] u299), L, I, P, E, N), sgM g)) C (WB_R hW) (mm_ rfl) rfl rfl) ⟨rfl, rfl, Nat.le_of_ble_eq_true rfl, Nat.le_of_ble_eq_true rfl⟩ rfl hl.1 rfl (Nat.le_of_ble_eq_true rfl) dL_law_1247 ⟨by show 1000 + 10 * k + 0 + 0 ≤ 600000; omega, by show 200000 + 20100 * k + 0 + 0 ≤ 7302250; omega⟩) (fun r302 u302 H locs hp302 hB hk hS => ?_)
            have hW : WB g A s.heap H locs ((hv (hv J [42] [] u299) [100] [] u302), L, I, P, E, N) ((sgX g ++ dy) ++ sgM g) := joinR hW hB hk hS (frsub C (WB_R hW)) (fun x hx => cel_x (hv_x rfl rfl (notm hW x hx)))
            refine lv_pop hx hb dL_law_1250 rfl ?_
            refine lv_goto (tgt := 1389) hx hb dL_law_1251 (by decide) ?_
            obtain ⟨x303, e303⟩ : ∃ y : Int32, y = i + 5 := ⟨_, rfl⟩
            refine lv_iinc (v := x303) (lv' := [(3, .int x303), (0, .ref b), (1, .ref (g.2.2.1 12)), (2, .ref (g.2.2.1 13))]) hx hb dL_law_1389 hl (k := 0) rfl (by rw [e303]; rfl) (by decide) rfl (fun ls hl => ?_)
            try have t303 : x303.toInt = i.toInt + 5 := tadd e303 rfl kp5 (by omega)
            refine lv_goto (tgt := 18) hx hb dL_law_1392 (by decide) ?_
            refine W.widen (k := 1000 + 10 * (k + 1)) (n := 200000 + 20100 * (k + 1)) (by omega) (by omega) ?_
            exact ih (k + 1) x303 (hv (hv J [42] [] u299) [100] [] u302) L I P E N dy H locs ls (by omega) (by omega) (by omega) hwf hwm hnow hrl hac hrel0 hrel1 hrel2 hrel3 hrel4 hrel5 hrel6 hrel7 hrel8 hrel9 hrel10 hrel11 hrel12 hrel13 hrel14 hrel15 hrel16 hrel17 hrel18 hrel19 hrel20 hrel21 hrel22 hrel23 hrel24 hrel25 hrel26 hrel27 hrel28 hrel29 hrel30 (tol_s (a := J 13 49) (k := k) hk64 (Or.inl rfl) hrel31) hrel32 hrel33 hrel34 hrel35 hrel36 hrel37 hrel38 hrel39 hrel40 hrel41 hrel42 hrel43 hrel44 hW (lv_sub hl [0, 1, 2, 3] rfl)
          · refine lv_tableIn (off := 1222) (tgt := 1254) hx hb dL_law_32 (Int.not_lt.mpr c6) (Int.not_lt.mpr c6b) (by rw [c6k]; rfl) (by decide) ?_
            refine lv_aload_n hx hb dL_law_1254 rfl (lv_at hl 2 rfl) ?_
            refine lv_aload_n hx hb dL_law_1255 rfl (lv_at hl 1 rfl) ?_
            refine lv_iload_n hx hb dL_law_1256 rfl (lv_at hl 0 rfl) ?_
            refine lv_iconst (v := 1) hx hb dL_law_1257 (by decide) ?_
            refine lv_iadd hx hb dL_law_1258 ?_
            refine lv_topi (fun x304 (e304 : x304 = i + 1) => ?_)
            try have t304 : x304.toInt = i.toInt + 1 := tadd e304 rfl kp1 (by omega)
            have hin : vp_in x304 Lx := tin rfl (by omega)
            refine va_sld hx hb hX hbl hbA hW.2.2.1 hin dL_law_1259 ?_
            refine lv_topi (fun x305 (e305 : x305 = xs x304.toNatClampNeg) => ?_)
            refine ci2_ C (WB_L hW) (runV (x := g.2.2.1 12) (As := [.int x305]) (rest := []) (T := ((J, L, I, P, E, N), sgX g ++ dy)) C (WB_L hW) (c_X11_put_e l g J L I P E N dy H.size x305 hwf hrl) mi_X11_put tw_982 (recv_ (T := ((J, L, I, P, E, N), sgX g ++ dy)) C (WB_L hW) (mx_ rfl) rfl rfl) ⟨rfl, rfl, Nat.le_of_ble_eq_true rfl, Nat.le_of_ble_eq_true rfl⟩ rfl hl.1 rfl (Nat.le_of_ble_eq_true rfl) dL_law_1260 ⟨by show 1000 + 10 * k + 0 ≤ 600000; omega, by show 200000 + 20100 * k + 0 ≤ 7302250; omega⟩) (fun r306 u306 H locs hp306 hB hk hS => ?_)
            have hW : WB g A s.heap H locs ((hv J [41, 42] [(12, 11)] u306), L, I, P, E, N) ((sgX g ++ dy) ++ sgM g) := joinL hW hB hk hS (frsub C (WB_L hW)) (okM hW (fun r h => hv_m (J := J) (R := [41, 42]) (F := [(12, 11)]) rfl rfl h) (fun r h => rfl))
            obtain ⟨hc306, hf306_0⟩ : ((r306.toInt = (-4) ∧ (x305.toInt < -32768) ∧ u306 12 11 = J 12 11 ∧ u306 41 = J 41) ∨ (r306.toInt = (-6) ∧ (-32768 ≤ x305.toInt ∧ (32767 < x305.toInt ∨ 60 ≤ (J 12 11).toInt)) ∧ u306 12 11 = J 12 11 ∧ u306 41 = J 41) ∨ (r306.toInt = (J 12 11).toInt + 1 ∧ (-32768 ≤ x305.toInt ∧ x305.toInt ≤ 32767 ∧ (J 12 11).toInt ≤ 59) ∧ (u306 12 11).toInt = (J 12 11).toInt + 1 ∧ u306 41 = up2 J 41 (J 12 11).toNatClampNeg x305 41)) ∧ (0 ≤ (u306 12 11).toInt) := hp306
            have hrl := hf306_0
            refine lv_pop hx hb dL_law_1263 rfl ?_
            refine lv_aload_n hx hb dL_law_1264 rfl (lv_at hl 3 rfl) ?_
            refine lv_aload_n hx hb dL_law_1265 rfl (lv_at hl 1 rfl) ?_
            refine lv_iload_n hx hb dL_law_1266 rfl (lv_at hl 0 rfl) ?_
            refine lv_iconst (v := 1) hx hb dL_law_1267 (by decide) ?_
            refine lv_iadd hx hb dL_law_1268 ?_
            refine lv_topi (fun x307 (e307 : x307 = i + 1) => ?_)
            try have t307 : x307.toInt = i.toInt + 1 := tadd e307 rfl kp1 (by omega)
            have hin : vp_in x307 Lx := tin rfl (by omega)
            refine va_sld hx hb hX hbl hbA hW.2.2.1 hin dL_law_1269 ?_
            refine lv_as x305 (by rw [e305, e304, e307]) ?_
            refine ci2_ C (WB_R hW) (runV (x := g.2.2.1 13) (As := [.int x305]) (rest := []) (T := (((hv J [41, 42] [(12, 11)] u306), L, I, P, E, N), sgM g)) C (WB_R hW) (c_X12_put_e l g (hv J [41, 42] [(12, 11)] u306) L I P E N H.size x305 hwm) mi_X12_put tw_1527 (recv_ (T := (((hv J [41, 42] [(12, 11)] u306), L, I, P, E, N), sgM g)) C (WB_R hW) (mm_ rfl) rfl rfl) ⟨rfl, rfl, Nat.le_of_ble_eq_true rfl, Nat.le_of_ble_eq_true rfl⟩ rfl hl.1 rfl (Nat.le_of_ble_eq_true rfl) dL_law_1270 ⟨by show 1000 + 10 * k + 0 + 0 ≤ 600000; omega, by show 200000 + 20100 * k + 0 + 0 ≤ 7302250; omega⟩) (fun r308 u308 H locs hp308 hB hk hS => ?_)
            have hW : WB g A s.heap H locs ((hv (hv J [41, 42] [(12, 11)] u306) [100, 130] [(13, 44)] u308), L, I, P, E, N) ((sgX g ++ dy) ++ sgM g) := joinR hW hB hk hS (frsub C (WB_R hW)) (fun x hx => cel_x (hv_x rfl rfl (notm hW x hx)))
            obtain ⟨hwm, hc308⟩ : WM (hv (hv J [41, 42] [(12, 11)] u306) [100, 130] [(13, 44)] u308) ∧ ((r308.toInt = (-4) ∧ (x305.toInt < -32768) ∧ u308 13 44 = J 13 44 ∧ u308 130 = J 130) ∨ (r308.toInt = (-6) ∧ (-32768 ≤ x305.toInt ∧ (32767 < x305.toInt ∨ (J 13 44).toInt = 60)) ∧ u308 13 44 = J 13 44 ∧ u308 130 = J 130) ∨ (r308.toInt = (J 13 44).toInt + 1 ∧ (-32768 ≤ x305.toInt ∧ x305.toInt ≤ 32767 ∧ (J 13 44).toInt ≤ 59) ∧ (u308 13 44).toInt = (J 13 44).toInt + 1 ∧ u308 130 = up2 J 130 (J 13 44).toNatClampNeg x305 130)) := hp308
            refine lv_pop hx hb dL_law_1273 rfl ?_
            refine lv_goto (tgt := 1389) hx hb dL_law_1274 (by decide) ?_
            obtain ⟨x309, e309⟩ : ∃ y : Int32, y = i + 5 := ⟨_, rfl⟩
            refine lv_iinc (v := x309) (lv' := [(3, .int x309), (0, .ref b), (1, .ref (g.2.2.1 12)), (2, .ref (g.2.2.1 13))]) hx hb dL_law_1389 hl (k := 0) rfl (by rw [e309]; rfl) (by decide) rfl (fun ls hl => ?_)
            try have t309 : x309.toInt = i.toInt + 5 := tadd e309 rfl kp5 (by omega)
            refine lv_goto (tgt := 18) hx hb dL_law_1392 (by decide) ?_
            refine W.widen (k := 1000 + 10 * (k + 1)) (n := 200000 + 20100 * (k + 1)) (by omega) (by omega) ?_
            obtain ⟨hnew17, hnew18⟩ := rel_put k g J I P E N dy r306 x305 u306 r308 u308 hk64 hwf0 hwm0 hnow0 hrl0 hac0 hrel0 hrel1 hrel2 hrel3 hrel4 hrel5 hrel6 hrel7 hrel8 hrel9 hrel10 hrel11 hrel12 hrel13 hrel14 hrel15 hrel16 hrel17 hrel18 hrel19 hrel20 hrel21 hrel22 hrel23 hrel24 hrel25 hrel26 hrel27 hrel28 hrel29 hrel30 hrel31 hrel32 hrel33 hrel34 hrel35 hrel36 hrel37 hrel38 hrel39 hrel40 hrel41 hrel42 hrel43 hrel44 hc306 hf306_0 hc308
            exact ih (k + 1) x309 (hv (hv J [41, 42] [(12, 11)] u306) [100, 130] [(13, 44)] u308) L I P E N dy H locs ls (by omega) (by omega) (by omega) hwf hwm hnow hrl hac hrel0 hrel1 hrel2 hrel3 hrel4 hrel5 hrel6 hrel7 hrel8 hrel9 hrel10 hrel11 hrel12 hrel13 hrel14 hrel15 hrel16 hnew17 hnew18 hrel19 hrel20 hrel21 hrel22 hrel23 hrel24 hrel25 hrel26 hrel27 hrel28 hrel29 hrel30 (tol_s (a := J 13 49) (k := k) hk64 (Or.inl rfl) hrel31) hrel32 hrel33 hrel34 hrel35 hrel36 hrel37 hrel38 hrel39 hrel40 hrel41 hrel42 hrel43 hrel44 hW (lv_sub hl [0, 1, 2, 3] rfl)
          · refine lv_tableIn (off := 1245) (tgt := 1277) hx hb dL_law_32 (Int.not_lt.mpr c6) (Int.not_lt.mpr c6b) (by rw [c6k]; rfl) (by decide) ?_
            refine lv_aload_n hx hb dL_law_1277 rfl (lv_at hl 2 rfl) ?_
            refine ci2_ C (WB_L hW) (runV (x := g.2.2.1 12) (As := []) (rest := []) (T := ((J, L, I, P, E, N), sgX g ++ dy)) C (WB_L hW) (c_X11_judge_e l g J L I P E N dy H.size  hwf hrl) mi_X11_judge tw_986 (recv_ (T := ((J, L, I, P, E, N), sgX g ++ dy)) C (WB_L hW) (mx_ rfl) rfl rfl) ⟨rfl, rfl, Nat.le_of_ble_eq_true rfl, Nat.le_of_ble_eq_true rfl⟩ rfl hl.1 rfl (Nat.le_of_ble_eq_true rfl) dL_law_1278 ⟨by show 1000 + 10 * k + 0 ≤ 600000; omega, by show 200000 + 20100 * k + 0 ≤ 7302250; omega⟩) (fun r310 u310 H locs hp310 hB hk hS => ?_)
            have hW : WB g A s.heap H locs ((hv J [] [(12, 11)] u310), L, I, P, E, N) ((sgX g ++ dy) ++ sgM g) := joinL hW hB hk hS (frsub C (WB_L hW)) (okM hW (fun r h => hv_m (J := J) (R := []) (F := [(12, 11)]) rfl rfl h) (fun r h => rfl))
            obtain ⟨hf310_0, hf310_1, hf310_2⟩ : (0 ≤ (u310 12 11).toInt) ∧ ((u310 12 11).toInt = 0) ∧ (JDG (J 41) (J 12 11).toInt r310.toInt) := hp310
            have hrl := hf310_0
            refine lv_pop hx hb dL_law_1281 rfl ?_
            refine lv_aload_n hx hb dL_law_1282 rfl (lv_at hl 3 rfl) ?_
            refine ci2_ C (WB_R hW) (runV (x := g.2.2.1 13) (As := []) (rest := []) (T := (((hv J [] [(12, 11)] u310), L, I, P, E, N), sgM g)) C (WB_R hW) (c_X12_judge_e l g (hv J [] [(12, 11)] u310) L I P E N H.size  hwm) mi_X12_judge tw_1531 (recv_ (T := (((hv J [] [(12, 11)] u310), L, I, P, E, N), sgM g)) C (WB_R hW) (mm_ rfl) rfl rfl) ⟨rfl, rfl, Nat.le_of_ble_eq_true rfl, Nat.le_of_ble_eq_true rfl⟩ rfl hl.1 rfl (Nat.le_of_ble_eq_true rfl) dL_law_1283 ⟨by show 1000 + 10 * k + 0 + 0 ≤ 600000; omega, by show 200000 + 20100 * k + 0 + 0 ≤ 7302250; omega⟩) (fun r311 u311 H locs hp311 hB hk hS => ?_)
            have hW : WB g A s.heap H locs ((hv (hv J [] [(12, 11)] u310) [] [(13, 44)] u311), L, I, P, E, N) ((sgX g ++ dy) ++ sgM g) := joinR hW hB hk hS (frsub C (WB_R hW)) (fun x hx => cel_x (hv_x rfl rfl (notm hW x hx)))
            obtain ⟨hwm, hf311_0, hf311_1⟩ : WM (hv (hv J [] [(12, 11)] u310) [] [(13, 44)] u311) ∧ ((u311 13 44).toInt = 0) ∧ (JDG (J 130) (J 13 44).toInt r311.toInt) := hp311
            refine lv_pop hx hb dL_law_1286 rfl ?_
            refine lv_goto (tgt := 1389) hx hb dL_law_1287 (by decide) ?_
            obtain ⟨x312, e312⟩ : ∃ y : Int32, y = i + 5 := ⟨_, rfl⟩
            refine lv_iinc (v := x312) (lv' := [(3, .int x312), (0, .ref b), (1, .ref (g.2.2.1 12)), (2, .ref (g.2.2.1 13))]) hx hb dL_law_1389 hl (k := 0) rfl (by rw [e312]; rfl) (by decide) rfl (fun ls hl => ?_)
            try have t312 : x312.toInt = i.toInt + 5 := tadd e312 rfl kp5 (by omega)
            refine lv_goto (tgt := 18) hx hb dL_law_1392 (by decide) ?_
            refine W.widen (k := 1000 + 10 * (k + 1)) (n := 200000 + 20100 * (k + 1)) (by omega) (by omega) ?_
            obtain ⟨hnew17, hnew18⟩ := rel_judge k g J I P E N dy u310 r310 u311 r311 hk64 hwf0 hwm0 hnow0 hrl0 hac0 hrel0 hrel1 hrel2 hrel3 hrel4 hrel5 hrel6 hrel7 hrel8 hrel9 hrel10 hrel11 hrel12 hrel13 hrel14 hrel15 hrel16 hrel17 hrel18 hrel19 hrel20 hrel21 hrel22 hrel23 hrel24 hrel25 hrel26 hrel27 hrel28 hrel29 hrel30 hrel31 hrel32 hrel33 hrel34 hrel35 hrel36 hrel37 hrel38 hrel39 hrel40 hrel41 hrel42 hrel43 hrel44 hf310_0 hf310_1 hf310_2 hf311_0 hf311_1
            exact ih (k + 1) x312 (hv (hv J [] [(12, 11)] u310) [] [(13, 44)] u311) L I P E N dy H locs ls (by omega) (by omega) (by omega) hwf hwm hnow hrl hac hrel0 hrel1 hrel2 hrel3 hrel4 hrel5 hrel6 hrel7 hrel8 hrel9 hrel10 hrel11 hrel12 hrel13 hrel14 hrel15 hrel16 hnew17 hnew18 hrel19 hrel20 hrel21 hrel22 hrel23 hrel24 hrel25 hrel26 hrel27 hrel28 hrel29 hrel30 (tol_s (a := J 13 49) (k := k) hk64 (Or.inl rfl) hrel31) hrel32 hrel33 hrel34 hrel35 hrel36 hrel37 hrel38 hrel39 hrel40 hrel41 hrel42 hrel43 hrel44 hW (lv_sub hl [0, 1, 2, 3] rfl)
          · refine lv_tableIn (off := 1258) (tgt := 1290) hx hb dL_law_32 (Int.not_lt.mpr c6) (Int.not_lt.mpr c6b) (by rw [c6k]; rfl) (by decide) ?_
            refine lv_aload_n hx hb dL_law_1290 rfl (lv_at hl 2 rfl) ?_
            refine lv_aload_n hx hb dL_law_1291 rfl (lv_at hl 1 rfl) ?_
            refine lv_iload_n hx hb dL_law_1292 rfl (lv_at hl 0 rfl) ?_
            refine lv_iconst (v := 1) hx hb dL_law_1293 (by decide) ?_
            refine lv_iadd hx hb dL_law_1294 ?_
            refine lv_topi (fun x313 (e313 : x313 = i + 1) => ?_)
            try have t313 : x313.toInt = i.toInt + 1 := tadd e313 rfl kp1 (by omega)
            have hin : vp_in x313 Lx := tin rfl (by omega)
            refine va_sld hx hb hX hbl hbA hW.2.2.1 hin dL_law_1295 ?_
            refine lv_topi (fun x314 (e314 : x314 = xs x313.toNatClampNeg) => ?_)
            refine lv_aload_n hx hb dL_law_1296 rfl (lv_at hl 1 rfl) ?_
            refine lv_iload_n hx hb dL_law_1297 rfl (lv_at hl 0 rfl) ?_
            refine lv_iconst (v := 2) hx hb dL_law_1298 (by decide) ?_
            refine lv_iadd hx hb dL_law_1299 ?_
            refine lv_topi (fun x315 (e315 : x315 = i + 2) => ?_)
            try have t315 : x315.toInt = i.toInt + 2 := tadd e315 rfl kp2 (by omega)
            have hin : vp_in x315 Lx := tin rfl (by omega)
            refine va_sld hx hb hX hbl hbA hW.2.2.1 hin dL_law_1300 ?_
            refine lv_topi (fun x316 (e316 : x316 = xs x315.toNatClampNeg) => ?_)
            refine lv_aload_n hx hb dL_law_1301 rfl (lv_at hl 1 rfl) ?_
            refine lv_iload_n hx hb dL_law_1302 rfl (lv_at hl 0 rfl) ?_
            refine lv_iconst (v := 3) hx hb dL_law_1303 (by decide) ?_
            refine lv_iadd hx hb dL_law_1304 ?_
            refine lv_topi (fun x317 (e317 : x317 = i + 3) => ?_)
            try have t317 : x317.toInt = i.toInt + 3 := tadd e317 rfl kp3 (by omega)
            have hin : vp_in x317 Lx := tin rfl (by omega)
            refine va_sld hx hb hX hbl hbA hW.2.2.1 hin dL_law_1305 ?_
            refine lv_topi (fun x318 (e318 : x318 = xs x317.toNatClampNeg) => ?_)
            refine lv_aload_n hx hb dL_law_1306 rfl (lv_at hl 1 rfl) ?_
            refine lv_iload_n hx hb dL_law_1307 rfl (lv_at hl 0 rfl) ?_
            refine lv_iconst (v := 4) hx hb dL_law_1308 (by decide) ?_
            refine lv_iadd hx hb dL_law_1309 ?_
            refine lv_topi (fun x319 (e319 : x319 = i + 4) => ?_)
            try have t319 : x319.toInt = i.toInt + 4 := tadd e319 rfl kp4 (by omega)
            have hin : vp_in x319 Lx := tin rfl (by omega)
            refine va_sld hx hb hX hbl hbA hW.2.2.1 hin dL_law_1310 ?_
            refine lv_topi (fun x320 (e320 : x320 = xs x319.toNatClampNeg) => ?_)
            refine ci2_ C (WB_L hW) (runV (x := g.2.2.1 12) (As := [.int x314, .int x316, .int x318, .int x320]) (rest := []) (T := ((J, L, I, P, E, N), sgX g ++ dy)) C (WB_L hW) (c_X11_order l g J L I P E N dy H.size x314 x316 x318 x320 hwf) mi_X11_order tw_990 (recv_ (T := ((J, L, I, P, E, N), sgX g ++ dy)) C (WB_L hW) (mx_ rfl) rfl rfl) ⟨rfl, rfl, Nat.le_of_ble_eq_true rfl, Nat.le_of_ble_eq_true rfl⟩ rfl hl.1 rfl (Nat.le_of_ble_eq_true rfl) dL_law_1311 ⟨by show 1000 + 10 * k + 0 ≤ 600000; omega, by show 200000 + 20100 * k + 0 ≤ 7302250; omega⟩) (fun r321 u321 H locs hp321 hB hk hS => ?_)
            have hW : WB g A s.heap H locs ((hv J [42] [] u321), L, I, P, E, N) ((sgX g ++ dy) ++ sgM g) := joinL hW hB hk hS (frsub C (WB_L hW)) (okM hW (fun r h => hv_m (J := J) (R := [42]) (F := []) rfl rfl h) (fun r h => rfl))
            refine lv_pop hx hb dL_law_1314 rfl ?_
            refine lv_aload_n hx hb dL_law_1315 rfl (lv_at hl 3 rfl) ?_
            refine lv_aload_n hx hb dL_law_1316 rfl (lv_at hl 1 rfl) ?_
            refine lv_iload_n hx hb dL_law_1317 rfl (lv_at hl 0 rfl) ?_
            refine lv_iconst (v := 1) hx hb dL_law_1318 (by decide) ?_
            refine lv_iadd hx hb dL_law_1319 ?_
            refine lv_topi (fun x322 (e322 : x322 = i + 1) => ?_)
            try have t322 : x322.toInt = i.toInt + 1 := tadd e322 rfl kp1 (by omega)
            have hin : vp_in x322 Lx := tin rfl (by omega)
            refine va_sld hx hb hX hbl hbA hW.2.2.1 hin dL_law_1320 ?_
            refine lv_as x314 (by rw [e314, e313, e322]) ?_
            refine lv_aload_n hx hb dL_law_1321 rfl (lv_at hl 1 rfl) ?_
            refine lv_iload_n hx hb dL_law_1322 rfl (lv_at hl 0 rfl) ?_
            refine lv_iconst (v := 2) hx hb dL_law_1323 (by decide) ?_
            refine lv_iadd hx hb dL_law_1324 ?_
            refine lv_topi (fun x323 (e323 : x323 = i + 2) => ?_)
            try have t323 : x323.toInt = i.toInt + 2 := tadd e323 rfl kp2 (by omega)
            have hin : vp_in x323 Lx := tin rfl (by omega)
            refine va_sld hx hb hX hbl hbA hW.2.2.1 hin dL_law_1325 ?_
            refine lv_as x316 (by rw [e316, e315, e323]) ?_
            refine lv_aload_n hx hb dL_law_1326 rfl (lv_at hl 1 rfl) ?_
            refine lv_iload_n hx hb dL_law_1327 rfl (lv_at hl 0 rfl) ?_
            refine lv_iconst (v := 3) hx hb dL_law_1328 (by decide) ?_
            refine lv_iadd hx hb dL_law_1329 ?_
            refine lv_topi (fun x324 (e324 : x324 = i + 3) => ?_)
            try have t324 : x324.toInt = i.toInt + 3 := tadd e324 rfl kp3 (by omega)
            have hin : vp_in x324 Lx := tin rfl (by omega)
            refine va_sld hx hb hX hbl hbA hW.2.2.1 hin dL_law_1330 ?_
            refine lv_as x318 (by rw [e318, e317, e324]) ?_
            refine lv_aload_n hx hb dL_law_1331 rfl (lv_at hl 1 rfl) ?_
            refine lv_iload_n hx hb dL_law_1332 rfl (lv_at hl 0 rfl) ?_
            refine lv_iconst (v := 4) hx hb dL_law_1333 (by decide) ?_
            refine lv_iadd hx hb dL_law_1334 ?_
            refine lv_topi (fun x325 (e325 : x325 = i + 4) => ?_)
            try have t325 : x325.toInt = i.toInt + 4 := tadd e325 rfl kp4 (by omega)
            have hin : vp_in x325 Lx := tin rfl (by omega)
            refine va_sld hx hb hX hbl hbA hW.2.2.1 hin dL_law_1335 ?_
            refine lv_as x320 (by rw [e320, e319, e325]) ?_
            refine ci2_ C (WB_R hW) (runV (x := g.2.2.1 13) (As := [.int x314, .int x316, .int x318, .int x320]) (rest := []) (T := (((hv J [42] [] u321), L, I, P, E, N), sgM g)) C (WB_R hW) (c_X12_order l g (hv J [42] [] u321) L I P E N H.size x314 x316 x318 x320 hwm) mi_X12_order tw_1535 (recv_ (T := (((hv J [42] [] u321), L, I, P, E, N), sgM g)) C (WB_R hW) (mm_ rfl) rfl rfl) ⟨rfl, rfl, Nat.le_of_ble_eq_true rfl, Nat.le_of_ble_eq_true rfl⟩ rfl hl.1 rfl (Nat.le_of_ble_eq_true rfl) dL_law_1336 ⟨by show 1000 + 10 * k + 0 + 0 ≤ 600000; omega, by show 200000 + 20100 * k + 0 + 0 ≤ 7302250; omega⟩) (fun r326 u326 H locs hp326 hB hk hS => ?_)
            have hW : WB g A s.heap H locs ((hv (hv J [42] [] u321) [100, 169] [] u326), L, I, P, E, N) ((sgX g ++ dy) ++ sgM g) := joinR hW hB hk hS (frsub C (WB_R hW)) (fun x hx => cel_x (hv_x rfl rfl (notm hW x hx)))
            refine lv_pop hx hb dL_law_1339 rfl ?_
            refine lv_goto (tgt := 1389) hx hb dL_law_1340 (by decide) ?_
            obtain ⟨x327, e327⟩ : ∃ y : Int32, y = i + 5 := ⟨_, rfl⟩
            refine lv_iinc (v := x327) (lv' := [(3, .int x327), (0, .ref b), (1, .ref (g.2.2.1 12)), (2, .ref (g.2.2.1 13))]) hx hb dL_law_1389 hl (k := 0) rfl (by rw [e327]; rfl) (by decide) rfl (fun ls hl => ?_)
            try have t327 : x327.toInt = i.toInt + 5 := tadd e327 rfl kp5 (by omega)
            refine lv_goto (tgt := 18) hx hb dL_law_1392 (by decide) ?_
            refine W.widen (k := 1000 + 10 * (k + 1)) (n := 200000 + 20100 * (k + 1)) (by omega) (by omega) ?_
            exact ih (k + 1) x327 (hv (hv J [42] [] u321) [100, 169] [] u326) L I P E N dy H locs ls (by omega) (by omega) (by omega) hwf hwm hnow hrl hac hrel0 hrel1 hrel2 hrel3 hrel4 hrel5 hrel6 hrel7 hrel8 hrel9 hrel10 hrel11 hrel12 hrel13 hrel14 hrel15 hrel16 hrel17 hrel18 hrel19 hrel20 hrel21 hrel22 hrel23 hrel24 hrel25 hrel26 hrel27 hrel28 hrel29 hrel30 (tol_s (a := J 13 49) (k := k) hk64 (Or.inl rfl) hrel31) hrel32 hrel33 hrel34 hrel35 hrel36 hrel37 hrel38 hrel39 hrel40 hrel41 hrel42 hrel43 hrel44 hW (lv_sub hl [0, 1, 2, 3] rfl)
          · refine lv_tableIn (off := 1311) (tgt := 1343) hx hb dL_law_32 (Int.not_lt.mpr c6) (Int.not_lt.mpr c6b) (by rw [c6k]; rfl) (by decide) ?_
            refine lv_aload_n hx hb dL_law_1343 rfl (lv_at hl 2 rfl) ?_
            refine lv_aload_n hx hb dL_law_1344 rfl (lv_at hl 1 rfl) ?_
            refine lv_iload_n hx hb dL_law_1345 rfl (lv_at hl 0 rfl) ?_
            refine lv_iconst (v := 1) hx hb dL_law_1346 (by decide) ?_
            refine lv_iadd hx hb dL_law_1347 ?_
            refine lv_topi (fun x328 (e328 : x328 = i + 1) => ?_)
            try have t328 : x328.toInt = i.toInt + 1 := tadd e328 rfl kp1 (by omega)
            have hin : vp_in x328 Lx := tin rfl (by omega)
            refine va_sld hx hb hX hbl hbA hW.2.2.1 hin dL_law_1348 ?_
            refine lv_topi (fun x329 (e329 : x329 = xs x328.toNatClampNeg) => ?_)
            refine ci2_ C (WB_L hW) (runV (x := g.2.2.1 12) (As := [.int x329]) (rest := []) (T := ((J, L, I, P, E, N), sgX g ++ dy)) C (WB_L hW) (c_X11_check_e l g J L I P E N dy H.size x329 hwf hrl (show (J 12 11).toInt ≤ 60 from by omega) hrel9 ⟨hnow.1, hnow.2.1⟩) mi_X11_check tw_1001 (recv_ (T := ((J, L, I, P, E, N), sgX g ++ dy)) C (WB_L hW) (mx_ rfl) rfl rfl) ⟨rfl, rfl, Nat.le_of_ble_eq_true rfl, Nat.le_of_ble_eq_true rfl⟩ rfl hl.1 rfl (Nat.le_of_ble_eq_true rfl) dL_law_1349 ⟨by show 1000 + 10 * k + 0 ≤ 600000; omega, by show 200000 + 20100 * k + 0 ≤ 7302250; omega⟩) (fun r330 u330 H locs hp330 hB hk hS => ?_)
            have hW : WB g A s.heap H locs ((hv J [42] [(12, 11)] u330), L, I, P, E, N) ((sgX g ++ dy) ++ sgM g) := joinL hW hB hk hS (frsub C (WB_L hW)) (okM hW (fun r h => hv_m (J := J) (R := [42]) (F := [(12, 11)]) rfl rfl h) (fun r h => rfl))
            obtain ⟨hc330, hf330_0⟩ : ((r330.toInt = (-1) ∧ (¬ (0 ≤ x329.toInt ∧ x329.toInt < (J 3 1).toInt ∧ (J 12 11).toInt ≤ (J 3 1).toInt - x329.toInt)) ∧ u330 12 11 = J 12 11 ∧ u330 41 = J 41) ∨ (r330 = r330 ∧ (0 ≤ x329.toInt ∧ x329.toInt < (J 3 1).toInt ∧ (J 12 11).toInt ≤ (J 3 1).toInt - x329.toInt) ∧ (u330 12 11).toInt = 0 ∧ u330 41 = J 41 ∧ CHK (J 41) (J 116) x329.toInt (J 12 11).toInt r330.toInt)) ∧ (0 ≤ (u330 12 11).toInt) := hp330
            have hrl := hf330_0
            refine lv_pop hx hb dL_law_1352 rfl ?_
            refine lv_aload_n hx hb dL_law_1353 rfl (lv_at hl 3 rfl) ?_
            refine lv_aload_n hx hb dL_law_1354 rfl (lv_at hl 1 rfl) ?_
            refine lv_iload_n hx hb dL_law_1355 rfl (lv_at hl 0 rfl) ?_
            refine lv_iconst (v := 1) hx hb dL_law_1356 (by decide) ?_
            refine lv_iadd hx hb dL_law_1357 ?_
            refine lv_topi (fun x331 (e331 : x331 = i + 1) => ?_)
            try have t331 : x331.toInt = i.toInt + 1 := tadd e331 rfl kp1 (by omega)
            have hin : vp_in x331 Lx := tin rfl (by omega)
            refine va_sld hx hb hX hbl hbA hW.2.2.1 hin dL_law_1358 ?_
            refine lv_as x329 (by rw [e329, e328, e331]) ?_
            refine ci2_ C (WB_R hW) (runV (x := g.2.2.1 13) (As := [.int x329]) (rest := []) (T := (((hv J [42] [(12, 11)] u330), L, I, P, E, N), sgM g)) C (WB_R hW) (c_X12_check_e l g (hv J [42] [(12, 11)] u330) L I P E N H.size x329 hwm) mi_X12_check tw_1540 (recv_ (T := (((hv J [42] [(12, 11)] u330), L, I, P, E, N), sgM g)) C (WB_R hW) (mm_ rfl) rfl rfl) ⟨rfl, rfl, Nat.le_of_ble_eq_true rfl, Nat.le_of_ble_eq_true rfl⟩ rfl hl.1 rfl (Nat.le_of_ble_eq_true rfl) dL_law_1359 ⟨by show 1000 + 10 * k + 0 + 0 ≤ 600000; omega, by show 200000 + 20100 * k + 0 + 0 ≤ 7302250; omega⟩) (fun r332 u332 H locs hp332 hB hk hS => ?_)
            have hW : WB g A s.heap H locs ((hv (hv J [42] [(12, 11)] u330) [100] [(13, 44)] u332), L, I, P, E, N) ((sgX g ++ dy) ++ sgM g) := joinR hW hB hk hS (frsub C (WB_R hW)) (fun x hx => cel_x (hv_x rfl rfl (notm hW x hx)))
            obtain ⟨hwm, hc332⟩ : WM (hv (hv J [42] [(12, 11)] u330) [100] [(13, 44)] u332) ∧ ((r332.toInt = (-1) ∧ (¬ (0 ≤ x329.toInt ∧ x329.toInt < (J 13 31).toInt ∧ (J 13 44).toInt ≤ (J 13 31).toInt - x329.toInt)) ∧ u332 13 44 = J 13 44 ∧ u332 130 = J 130) ∨ (r332 = r332 ∧ (0 ≤ x329.toInt ∧ x329.toInt < (J 13 31).toInt ∧ (J 13 44).toInt ≤ (J 13 31).toInt - x329.toInt) ∧ (u332 13 44).toInt = 0 ∧ u332 130 = J 130 ∧ CHK (J 130) (J 116) x329.toInt (J 13 44).toInt r332.toInt)) := hp332
            refine lv_pop hx hb dL_law_1362 rfl ?_
            refine lv_goto (tgt := 1389) hx hb dL_law_1363 (by decide) ?_
            obtain ⟨x333, e333⟩ : ∃ y : Int32, y = i + 5 := ⟨_, rfl⟩
            refine lv_iinc (v := x333) (lv' := [(3, .int x333), (0, .ref b), (1, .ref (g.2.2.1 12)), (2, .ref (g.2.2.1 13))]) hx hb dL_law_1389 hl (k := 0) rfl (by rw [e333]; rfl) (by decide) rfl (fun ls hl => ?_)
            try have t333 : x333.toInt = i.toInt + 5 := tadd e333 rfl kp5 (by omega)
            refine lv_goto (tgt := 18) hx hb dL_law_1392 (by decide) ?_
            refine W.widen (k := 1000 + 10 * (k + 1)) (n := 200000 + 20100 * (k + 1)) (by omega) (by omega) ?_
            obtain ⟨hnew17, hnew18⟩ := rel_check k g J I P E N dy r330 x329 u330 r332 u332 hk64 hwf0 hwm0 hnow0 hrl0 hac0 hrel0 hrel1 hrel2 hrel3 hrel4 hrel5 hrel6 hrel7 hrel8 hrel9 hrel10 hrel11 hrel12 hrel13 hrel14 hrel15 hrel16 hrel17 hrel18 hrel19 hrel20 hrel21 hrel22 hrel23 hrel24 hrel25 hrel26 hrel27 hrel28 hrel29 hrel30 hrel31 hrel32 hrel33 hrel34 hrel35 hrel36 hrel37 hrel38 hrel39 hrel40 hrel41 hrel42 hrel43 hrel44 hc330 hf330_0 hc332
            exact ih (k + 1) x333 (hv (hv J [42] [(12, 11)] u330) [100] [(13, 44)] u332) L I P E N dy H locs ls (by omega) (by omega) (by omega) hwf hwm hnow hrl hac hrel0 hrel1 hrel2 hrel3 hrel4 hrel5 hrel6 hrel7 hrel8 hrel9 hrel10 hrel11 hrel12 hrel13 hrel14 hrel15 hrel16 hnew17 hnew18 hrel19 hrel20 hrel21 hrel22 hrel23 hrel24 hrel25 hrel26 hrel27 hrel28 hrel29 hrel30 (tol_s (a := J 13 49) (k := k) hk64 (Or.inl rfl) hrel31) hrel32 hrel33 hrel34 hrel35 hrel36 hrel37 hrel38 hrel39 hrel40 hrel41 hrel42 hrel43 hrel44 hW (lv_sub hl [0, 1, 2, 3] rfl)
          · refine lv_tableIn (off := 1334) (tgt := 1366) hx hb dL_law_32 (Int.not_lt.mpr c6) (Int.not_lt.mpr c6b) (by rw [c6k]; rfl) (by decide) ?_
            refine lv_aload_n hx hb dL_law_1366 rfl (lv_at hl 2 rfl) ?_
            refine lv_aload_n hx hb dL_law_1367 rfl (lv_at hl 1 rfl) ?_
            refine lv_iload_n hx hb dL_law_1368 rfl (lv_at hl 0 rfl) ?_
            refine lv_iconst (v := 1) hx hb dL_law_1369 (by decide) ?_
            refine lv_iadd hx hb dL_law_1370 ?_
            refine lv_topi (fun x334 (e334 : x334 = i + 1) => ?_)
            try have t334 : x334.toInt = i.toInt + 1 := tadd e334 rfl kp1 (by omega)
            have hin : vp_in x334 Lx := tin rfl (by omega)
            refine va_sld hx hb hX hbl hbA hW.2.2.1 hin dL_law_1371 ?_
            refine lv_topi (fun x335 (e335 : x335 = xs x334.toNatClampNeg) => ?_)
            refine ci2_ C (WB_L hW) (runV (x := g.2.2.1 12) (As := [.int x335]) (rest := []) (T := ((J, L, I, P, E, N), sgX g ++ dy)) C (WB_L hW) (c_X11_count l g J L I P E N dy H.size x335 hwf) mi_X11_count tw_1005 (recv_ (T := ((J, L, I, P, E, N), sgX g ++ dy)) C (WB_L hW) (mx_ rfl) rfl rfl) ⟨rfl, rfl, Nat.le_of_ble_eq_true rfl, Nat.le_of_ble_eq_true rfl⟩ rfl hl.1 rfl (Nat.le_of_ble_eq_true rfl) dL_law_1372 ⟨by show 1000 + 10 * k + 0 ≤ 600000; omega, by show 200000 + 20100 * k + 0 ≤ 7302250; omega⟩) (fun r336 u336 H locs hp336 hB hk hS => ?_)
            have hW : WB g A s.heap H locs (J, L, I, P, E, N) ((sgX g ++ dy) ++ sgM g) := joinL hW hB hk hS (frsub C (WB_L hW)) (okM hW (fun r h => rfl) (fun r h => rfl))
            refine lv_pop hx hb dL_law_1375 rfl ?_
            refine lv_aload_n hx hb dL_law_1376 rfl (lv_at hl 3 rfl) ?_
            refine lv_aload_n hx hb dL_law_1377 rfl (lv_at hl 1 rfl) ?_
            refine lv_iload_n hx hb dL_law_1378 rfl (lv_at hl 0 rfl) ?_
            refine lv_iconst (v := 1) hx hb dL_law_1379 (by decide) ?_
            refine lv_iadd hx hb dL_law_1380 ?_
            refine lv_topi (fun x337 (e337 : x337 = i + 1) => ?_)
            try have t337 : x337.toInt = i.toInt + 1 := tadd e337 rfl kp1 (by omega)
            have hin : vp_in x337 Lx := tin rfl (by omega)
            refine va_sld hx hb hX hbl hbA hW.2.2.1 hin dL_law_1381 ?_
            refine lv_as x335 (by rw [e335, e334, e337]) ?_
            refine ci2_ C (WB_R hW) (runV (x := g.2.2.1 13) (As := [.int x335]) (rest := []) (T := ((J, L, I, P, E, N), sgM g)) C (WB_R hW) (c_X12_count l g J L I P E N H.size x335 hwm) mi_X12_count tw_1544 (recv_ (T := ((J, L, I, P, E, N), sgM g)) C (WB_R hW) (mm_ rfl) rfl rfl) ⟨rfl, rfl, Nat.le_of_ble_eq_true rfl, Nat.le_of_ble_eq_true rfl⟩ rfl hl.1 rfl (Nat.le_of_ble_eq_true rfl) dL_law_1382 ⟨by show 1000 + 10 * k + 0 + 0 ≤ 600000; omega, by show 200000 + 20100 * k + 0 + 0 ≤ 7302250; omega⟩) (fun r338 u338 H locs hp338 hB hk hS => ?_)
            have hW : WB g A s.heap H locs (J, L, I, P, E, N) ((sgX g ++ dy) ++ sgM g) := joinR hW hB hk hS (frsub C (WB_R hW)) (fun _ _ => rfl)
            refine lv_pop hx hb dL_law_1385 rfl ?_
            refine lv_goto (tgt := 1389) hx hb dL_law_1386 (by decide) ?_
            obtain ⟨x339, e339⟩ : ∃ y : Int32, y = i + 5 := ⟨_, rfl⟩
            refine lv_iinc (v := x339) (lv' := [(3, .int x339), (0, .ref b), (1, .ref (g.2.2.1 12)), (2, .ref (g.2.2.1 13))]) hx hb dL_law_1389 hl (k := 0) rfl (by rw [e339]; rfl) (by decide) rfl (fun ls hl => ?_)
            try have t339 : x339.toInt = i.toInt + 5 := tadd e339 rfl kp5 (by omega)
            refine lv_goto (tgt := 18) hx hb dL_law_1392 (by decide) ?_
            refine W.widen (k := 1000 + 10 * (k + 1)) (n := 200000 + 20100 * (k + 1)) (by omega) (by omega) ?_
            exact ih (k + 1) x339 J L I P E N dy H locs ls (by omega) (by omega) (by omega) hwf hwm hnow hrl hac hrel0 hrel1 hrel2 hrel3 hrel4 hrel5 hrel6 hrel7 hrel8 hrel9 hrel10 hrel11 hrel12 hrel13 hrel14 hrel15 hrel16 hrel17 hrel18 hrel19 hrel20 hrel21 hrel22 hrel23 hrel24 hrel25 hrel26 hrel27 hrel28 hrel29 hrel30 (tol_s (a := J 13 49) (k := k) hk64 (Or.inl rfl) hrel31) hrel32 hrel33 hrel34 hrel35 hrel36 hrel37 hrel38 hrel39 hrel40 hrel41 hrel42 hrel43 hrel44 hW (lv_sub hl [0, 1, 2, 3] rfl)
